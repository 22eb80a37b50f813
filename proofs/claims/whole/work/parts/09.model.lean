theorem vp_of {a b : Int32} (h1 : vp_in a 28) (h2 : vp_in b 4) : vp_in (((30 : Int32) + ((4 : Int32) * a)) + b) 142 := by
  obtain ⟨j, hj, rfl⟩ := vp_in_of h1 (by decide)
  obtain ⟨k, hk, rfl⟩ := vp_in_of h2 (by decide)
  have e : ((30 : Int32) + ((4 : Int32) * nI j)) + nI k = nI (30 + 4 * j + k) := by
    rw [show (30 : Int32) = nI 30 from rfl, show (4 : Int32) = nI 4 from rfl, pk_mul, nI_add, nI_add]
  rw [e]
  exact vp_in_nI (by omega) (by decide)
theorem vp_ow {a b : Int32} (h1 : vp_in a 4) (h2 : vp_in b 5) : vp_in (((10 : Int32) + ((5 : Int32) * a)) + b) 142 := by
  obtain ⟨j, hj, rfl⟩ := vp_in_of h1 (by decide)
  obtain ⟨k, hk, rfl⟩ := vp_in_of h2 (by decide)
  have e : ((10 : Int32) + ((5 : Int32) * nI j)) + nI k = nI (10 + 5 * j + k) := by
    rw [show (10 : Int32) = nI 10 from rfl, show (5 : Int32) = nI 5 from rfl, pk_mul, nI_add, nI_add]
  rw [e]
  exact vp_in_nI (by omega) (by decide)

def pX7_in (a1 : Int32) (a2 : Int32) (a3 : Int32) : Int32 := (if a1 < a2 then 0 else (if a3 < a1 then 0 else 1))
set_option maxHeartbeats 4000000 in
set_option maxRecDepth 100000 in
theorem kX7_in (l : Launch) (D : va_G) (cyC cyI cyO : ClassId) (a1 : Int32) (a2 : Int32) (a3 : Int32) : RO l yX7_in (Ty yX7_in cX7_in 3 (some .boolean)) ({ frames := 0, cells := 0, slots := 0, locals := 0 } : Room) D cyC cyI cyO [] [.int a1, .int a2, .int a3] (pX7_in a1 a2 a3) := by
  refine Met.ofW (cc := cX7_in) (maxL := 3) (ret := (some .boolean)) (by decide) rfl ?_
  intro p e s m args below meth cd s₁ B hml hv
  obtain ⟨rfl, hP, hK⟩ := hv
  have hx := B.exec
  have hb := B.bytes
  have hr := B.returns
  have hts : ∀ w ∈ TB, w.before ([.int a1, .int a2, .int a3] : List Value).toArray s = true := fun w h => atoms_spec (ws := (Ty yX7_in cX7_in 3 (some .boolean))) B.pre w (List.mem_cons_of_mem _ h)
  have hown : s.vm.findClass RX7 = some m.cls := findClass_of_methodNamed B.named
  have hlocks := B.notSynchronized
  have hl := lv_entry ([.int a1, .int a2, .int a3]) (n := 3) (Nat.le_of_ble_eq_true rfl)
  rw [lg_entry_eq]
  generalize (lg_sl ([.int a1, .int a2, .int a3]) ++ List.replicate (3 - (lg_sl ([.int a1, .int a2, .int a3])).length) Slot.unset).toArray = ls at hl ⊢
  have hl : lv_has ls 3 [(0, .int a1), (1, .int a2), (2, .int a3)] := hl
  refine lv_iload_n hx hb dX7_in_0 rfl (lv_at hl 0 rfl) ?_
  refine lv_iload_n hx hb dX7_in_1 rfl (lv_at hl 1 rfl) ?_
  refine lv_icmp_lt (tgt := 14) hx hb dX7_in_2 (by decide) (fun c_1 => ?_) (fun c_1 => ?_)
  · refine lv_iconst (v := 0) hx hb dX7_in_14 (by decide) ?_
    have e9 : 0 = (pX7_in a1 a2 a3) := by simp only [pX7_in, if_pos c_1]
    exact W.zret (ty := .boolean) (v := 0) hx hb hr (by rfl) (fun t ht hW => ⟨_, rfl, e9, ht⟩) (fun _ h => absurd h List.not_mem_nil) dX7_in_15
  · refine lv_iload_n hx hb dX7_in_5 rfl (lv_at hl 0 rfl) ?_
    refine lv_iload_n hx hb dX7_in_6 rfl (lv_at hl 2 rfl) ?_
    refine lv_icmp_gt (tgt := 14) hx hb dX7_in_7 (by decide) (fun c_2 => ?_) (fun c_2 => ?_)
    · refine lv_iconst (v := 0) hx hb dX7_in_14 (by decide) ?_
      have e9 : 0 = (pX7_in a1 a2 a3) := by simp only [pX7_in, if_neg c_1, if_pos c_2]
      exact W.zret (ty := .boolean) (v := 0) hx hb hr (by rfl) (fun t ht hW => ⟨_, rfl, e9, ht⟩) (fun _ h => absurd h List.not_mem_nil) dX7_in_15
    · refine lv_iconst (v := 1) hx hb dX7_in_10 (by decide) ?_
      refine lv_goto (tgt := 15) hx hb dX7_in_11 (by decide) ?_
      have e9 : 1 = (pX7_in a1 a2 a3) := by simp only [pX7_in, if_neg c_1, if_neg c_2]
      exact W.zret (ty := .boolean) (v := 1) hx hb hr (by rfl) (fun t ht hW => ⟨_, rfl, e9, ht⟩) (fun _ h => absurd h List.not_mem_nil) dX7_in_15
theorem z_X7_in (a1 : Int32) (a2 : Int32) (a3 : Int32) : (pX7_in a1 a2 a3) = 0 ∨ (pX7_in a1 a2 a3) = 1 := by
  unfold pX7_in
  (repeat' split) <;> first | with_reducible exact Or.inl rfl | with_reducible exact Or.inr rfl
theorem bS_X7_in : BS yX7_in cX7_in 3 (some .boolean) 3 := ⟨wcd_X7_in, wst_X7_in, win_RX7, by decide +kernel⟩
def pX7_isRoof (a1 : Int32) : Int32 := (pX7_in a1 0 15)
set_option maxHeartbeats 4000000 in
set_option maxRecDepth 100000 in
theorem kX7_isRoof (l : Launch) (D : va_G) (cyC cyI cyO : ClassId) (a1 : Int32) : RO l yX7_isRoof (Ty yX7_isRoof cX7_isRoof 1 (some .boolean)) ({ frames := 1, cells := 0, slots := 0, locals := 22 } : Room) D cyC cyI cyO [] [.int a1] (pX7_isRoof a1) := by
  refine Met.ofW (cc := cX7_isRoof) (maxL := 1) (ret := (some .boolean)) (by decide) rfl ?_
  intro p e s m args below meth cd s₁ B hml hv
  obtain ⟨rfl, hP, hK⟩ := hv
  have hx := B.exec
  have hb := B.bytes
  have hr := B.returns
  have hts : ∀ w ∈ TB, w.before ([.int a1] : List Value).toArray s = true := fun w h => atoms_spec (ws := (Ty yX7_isRoof cX7_isRoof 1 (some .boolean))) B.pre w (List.mem_cons_of_mem _ h)
  have hown : s.vm.findClass RX7 = some m.cls := findClass_of_methodNamed B.named
  have hlocks := B.notSynchronized
  have hl := lv_entry ([.int a1]) (n := 1) (Nat.le_of_ble_eq_true rfl)
  rw [lg_entry_eq]
  generalize (lg_sl ([.int a1]) ++ List.replicate (1 - (lg_sl ([.int a1])).length) Slot.unset).toArray = ls at hl ⊢
  have hl : lv_has ls 1 [(0, .int a1)] := hl
  refine lv_iload_n hx hb dX7_isRoof_0 rfl (lv_at hl 0 rfl) ?_
  refine lv_iconst (v := 0) hx hb dX7_isRoof_1 (by decide) ?_
  refine lv_bipush (v := 15) hx hb dX7_isRoof_2 (by decide) ?_
  refine rS (As := [.int a1, .int 0, .int 15]) (rest := []) hx hb hml hown hts hl.1 (kX7_in l D cyC cyI cyO a1 0 15) bS_X7_in  wml_RX7_41 ⟨rfl, rfl⟩ ⟨Nat.le_of_ble_eq_true rfl, Nat.le_of_ble_eq_true rfl, Nat.zero_le _, Nat.zero_le _⟩ [] rfl hP hK rfl rfl (Nat.le_of_ble_eq_true rfl) dX7_isRoof_4 ?_
  have e9 : (pX7_in a1 0 15) = (pX7_isRoof a1) := rfl
  exact W.zret (ty := .boolean) (v := (pX7_in a1 0 15)) hx hb hr (nz (z_X7_in a1 0 15)) (fun t ht hW => ⟨_, rfl, e9, ht⟩) (fun _ h => absurd h List.not_mem_nil) dX7_isRoof_7
theorem z_X7_isRoof (a1 : Int32) : (pX7_isRoof a1) = 0 ∨ (pX7_isRoof a1) = 1 := by
  unfold pX7_isRoof
  (repeat' split) <;> first | with_reducible exact z_X7_in _ _ _ | with_reducible exact Or.inl rfl | with_reducible exact Or.inr rfl
theorem bS_X7_isRoof : BS yX7_isRoof cX7_isRoof 1 (some .boolean) 1 := ⟨wcd_X7_isRoof, wst_X7_isRoof, win_RX7, by decide +kernel⟩
def pX7_isOwner (a1 : Int32) : Int32 := (pX7_in a1 0 3)
set_option maxHeartbeats 4000000 in
set_option maxRecDepth 100000 in
theorem kX7_isOwner (l : Launch) (D : va_G) (cyC cyI cyO : ClassId) (a1 : Int32) : RO l yX7_isOwner (Ty yX7_isOwner cX7_isOwner 1 (some .boolean)) ({ frames := 1, cells := 0, slots := 0, locals := 22 } : Room) D cyC cyI cyO [] [.int a1] (pX7_isOwner a1) := by
  refine Met.ofW (cc := cX7_isOwner) (maxL := 1) (ret := (some .boolean)) (by decide) rfl ?_
  intro p e s m args below meth cd s₁ B hml hv
  obtain ⟨rfl, hP, hK⟩ := hv
  have hx := B.exec
  have hb := B.bytes
  have hr := B.returns
  have hts : ∀ w ∈ TB, w.before ([.int a1] : List Value).toArray s = true := fun w h => atoms_spec (ws := (Ty yX7_isOwner cX7_isOwner 1 (some .boolean))) B.pre w (List.mem_cons_of_mem _ h)
  have hown : s.vm.findClass RX7 = some m.cls := findClass_of_methodNamed B.named
  have hlocks := B.notSynchronized
  have hl := lv_entry ([.int a1]) (n := 1) (Nat.le_of_ble_eq_true rfl)
  rw [lg_entry_eq]
  generalize (lg_sl ([.int a1]) ++ List.replicate (1 - (lg_sl ([.int a1])).length) Slot.unset).toArray = ls at hl ⊢
  have hl : lv_has ls 1 [(0, .int a1)] := hl
  refine lv_iload_n hx hb dX7_isOwner_0 rfl (lv_at hl 0 rfl) ?_
  refine lv_iconst (v := 0) hx hb dX7_isOwner_1 (by decide) ?_
  refine lv_iconst (v := 3) hx hb dX7_isOwner_2 (by decide) ?_
  refine rS (As := [.int a1, .int 0, .int 3]) (rest := []) hx hb hml hown hts hl.1 (kX7_in l D cyC cyI cyO a1 0 3) bS_X7_in  wml_RX7_41 ⟨rfl, rfl⟩ ⟨Nat.le_of_ble_eq_true rfl, Nat.le_of_ble_eq_true rfl, Nat.zero_le _, Nat.zero_le _⟩ [] rfl hP hK rfl rfl (Nat.le_of_ble_eq_true rfl) dX7_isOwner_3 ?_
  have e9 : (pX7_in a1 0 3) = (pX7_isOwner a1) := rfl
  exact W.zret (ty := .boolean) (v := (pX7_in a1 0 3)) hx hb hr (nz (z_X7_in a1 0 3)) (fun t ht hW => ⟨_, rfl, e9, ht⟩) (fun _ h => absurd h List.not_mem_nil) dX7_isOwner_6
theorem z_X7_isOwner (a1 : Int32) : (pX7_isOwner a1) = 0 ∨ (pX7_isOwner a1) = 1 := by
  unfold pX7_isOwner
  (repeat' split) <;> first | with_reducible exact z_X7_in _ _ _ | with_reducible exact Or.inl rfl | with_reducible exact Or.inr rfl
theorem bS_X7_isOwner : BS yX7_isOwner cX7_isOwner 1 (some .boolean) 1 := ⟨wcd_X7_isOwner, wst_X7_isOwner, win_RX7, by decide +kernel⟩
def pX7_isGangway (a1 : Int32) : Int32 := (if (pX7_in a1 0 27) = 0 then 0 else (if 16 ≤ a1 then 1 else (if 3 ≤ (a1 - a1 / (4 : Int32) * (4 : Int32)) then 0 else 1)))
set_option maxHeartbeats 4000000 in
set_option maxRecDepth 100000 in
theorem kX7_isGangway (l : Launch) (D : va_G) (cyC cyI cyO : ClassId) (a1 : Int32) : RO l yX7_isGangway (Ty yX7_isGangway cX7_isGangway 1 (some .boolean)) ({ frames := 1, cells := 0, slots := 0, locals := 22 } : Room) D cyC cyI cyO [] [.int a1] (pX7_isGangway a1) := by
  refine Met.ofW (cc := cX7_isGangway) (maxL := 1) (ret := (some .boolean)) (by decide) rfl ?_
  intro p e s m args below meth cd s₁ B hml hv
  obtain ⟨rfl, hP, hK⟩ := hv
  have hx := B.exec
  have hb := B.bytes
  have hr := B.returns
  have hts : ∀ w ∈ TB, w.before ([.int a1] : List Value).toArray s = true := fun w h => atoms_spec (ws := (Ty yX7_isGangway cX7_isGangway 1 (some .boolean))) B.pre w (List.mem_cons_of_mem _ h)
  have hown : s.vm.findClass RX7 = some m.cls := findClass_of_methodNamed B.named
  have hlocks := B.notSynchronized
  have hl := lv_entry ([.int a1]) (n := 1) (Nat.le_of_ble_eq_true rfl)
  rw [lg_entry_eq]
  generalize (lg_sl ([.int a1]) ++ List.replicate (1 - (lg_sl ([.int a1])).length) Slot.unset).toArray = ls at hl ⊢
  have hl : lv_has ls 1 [(0, .int a1)] := hl
  refine lv_iload_n hx hb dX7_isGangway_0 rfl (lv_at hl 0 rfl) ?_
  refine lv_iconst (v := 0) hx hb dX7_isGangway_1 (by decide) ?_
  refine lv_bipush (v := 27) hx hb dX7_isGangway_2 (by decide) ?_
  refine rS (As := [.int a1, .int 0, .int 27]) (rest := []) hx hb hml hown hts hl.1 (kX7_in l D cyC cyI cyO a1 0 27) bS_X7_in  wml_RX7_41 ⟨rfl, rfl⟩ ⟨Nat.le_of_ble_eq_true rfl, Nat.le_of_ble_eq_true rfl, Nat.zero_le _, Nat.zero_le _⟩ [] rfl hP hK rfl rfl (Nat.le_of_ble_eq_true rfl) dX7_isGangway_4 ?_
  refine lv_if_eq (tgt := 27) hx hb dX7_isGangway_7 (by decide) (fun c_1 => ?_) (fun c_1 => ?_)
  · refine lv_iconst (v := 0) hx hb dX7_isGangway_27 (by decide) ?_
    have e9 : 0 = (pX7_isGangway a1) := by simp only [pX7_isGangway, if_pos c_1]
    exact W.zret (ty := .boolean) (v := 0) hx hb hr (by rfl) (fun t ht hW => ⟨_, rfl, e9, ht⟩) (fun _ h => absurd h List.not_mem_nil) dX7_isGangway_28
  · refine lv_iload_n hx hb dX7_isGangway_10 rfl (lv_at hl 0 rfl) ?_
    refine lv_bipush (v := 16) hx hb dX7_isGangway_11 (by decide) ?_
    refine lv_icmp_ge (tgt := 23) hx hb dX7_isGangway_13 (by decide) (fun c_2 => ?_) (fun c_2 => ?_)
    · refine lv_iconst (v := 1) hx hb dX7_isGangway_23 (by decide) ?_
      refine lv_goto (tgt := 28) hx hb dX7_isGangway_24 (by decide) ?_
      have e9 : 1 = (pX7_isGangway a1) := by simp only [pX7_isGangway, if_neg c_1, if_pos c_2]
      exact W.zret (ty := .boolean) (v := 1) hx hb hr (by rfl) (fun t ht hW => ⟨_, rfl, e9, ht⟩) (fun _ h => absurd h List.not_mem_nil) dX7_isGangway_28
    · refine lv_iload_n hx hb dX7_isGangway_16 rfl (lv_at hl 0 rfl) ?_
      refine lv_iconst (v := 4) hx hb dX7_isGangway_17 (by decide) ?_
      refine lv_irem hx hb dX7_isGangway_18 (by decide) ?_
      refine lv_iconst (v := 3) hx hb dX7_isGangway_19 (by decide) ?_
      refine lv_icmp_ge (tgt := 27) hx hb dX7_isGangway_20 (by decide) (fun c_3 => ?_) (fun c_3 => ?_)
      · refine lv_iconst (v := 0) hx hb dX7_isGangway_27 (by decide) ?_
        have e9 : 0 = (pX7_isGangway a1) := by simp only [pX7_isGangway, if_neg c_1, if_neg c_2, if_pos c_3]
        exact W.zret (ty := .boolean) (v := 0) hx hb hr (by rfl) (fun t ht hW => ⟨_, rfl, e9, ht⟩) (fun _ h => absurd h List.not_mem_nil) dX7_isGangway_28
      · refine lv_iconst (v := 1) hx hb dX7_isGangway_23 (by decide) ?_
        refine lv_goto (tgt := 28) hx hb dX7_isGangway_24 (by decide) ?_
        have e9 : 1 = (pX7_isGangway a1) := by simp only [pX7_isGangway, if_neg c_1, if_neg c_2, if_neg c_3]
        exact W.zret (ty := .boolean) (v := 1) hx hb hr (by rfl) (fun t ht hW => ⟨_, rfl, e9, ht⟩) (fun _ h => absurd h List.not_mem_nil) dX7_isGangway_28
theorem z_X7_isGangway (a1 : Int32) : (pX7_isGangway a1) = 0 ∨ (pX7_isGangway a1) = 1 := by
  unfold pX7_isGangway
  (repeat' split) <;> first | with_reducible exact Or.inl rfl | with_reducible exact Or.inr rfl
theorem bS_X7_isGangway : BS yX7_isGangway cX7_isGangway 1 (some .boolean) 1 := ⟨wcd_X7_isGangway, wst_X7_isGangway, win_RX7, by decide +kernel⟩
def pX7_lesserOf (a1 : Int32) : Int32 := (if 16 ≤ a1 then (a1 - (16 : Int32)) else a1)
set_option maxHeartbeats 4000000 in
set_option maxRecDepth 100000 in
theorem kX7_lesserOf (l : Launch) (D : va_G) (cyC cyI cyO : ClassId) (a1 : Int32) : RO l yX7_lesserOf (Ty yX7_lesserOf cX7_lesserOf 1 (some .int)) ({ frames := 0, cells := 0, slots := 0, locals := 0 } : Room) D cyC cyI cyO [] [.int a1] (pX7_lesserOf a1) := by
  refine Met.ofW (cc := cX7_lesserOf) (maxL := 1) (ret := (some .int)) (by decide) rfl ?_
  intro p e s m args below meth cd s₁ B hml hv
  obtain ⟨rfl, hP, hK⟩ := hv
  have hx := B.exec
  have hb := B.bytes
  have hr := B.returns
  have hts : ∀ w ∈ TB, w.before ([.int a1] : List Value).toArray s = true := fun w h => atoms_spec (ws := (Ty yX7_lesserOf cX7_lesserOf 1 (some .int))) B.pre w (List.mem_cons_of_mem _ h)
  have hown : s.vm.findClass RX7 = some m.cls := findClass_of_methodNamed B.named
  have hlocks := B.notSynchronized
  have hl := lv_entry ([.int a1]) (n := 1) (Nat.le_of_ble_eq_true rfl)
  rw [lg_entry_eq]
  generalize (lg_sl ([.int a1]) ++ List.replicate (1 - (lg_sl ([.int a1])).length) Slot.unset).toArray = ls at hl ⊢
  have hl : lv_has ls 1 [(0, .int a1)] := hl
  refine lv_iload_n hx hb dX7_lesserOf_0 rfl (lv_at hl 0 rfl) ?_
  refine lv_bipush (v := 16) hx hb dX7_lesserOf_1 (by decide) ?_
  refine lv_icmp_ge (tgt := 10) hx hb dX7_lesserOf_3 (by decide) (fun c_1 => ?_) (fun c_1 => ?_)
  · refine lv_iload_n hx hb dX7_lesserOf_10 rfl (lv_at hl 0 rfl) ?_
    refine lv_bipush (v := 16) hx hb dX7_lesserOf_11 (by decide) ?_
    refine lv_isub hx hb dX7_lesserOf_13 ?_
    have e9 : (a1 - (16 : Int32)) = (pX7_lesserOf a1) := by simp only [pX7_lesserOf, if_pos c_1]
    exact W.iret (v := (a1 - (16 : Int32))) hx hb hr (fun t ht hW => ⟨_, rfl, e9, ht⟩) (fun _ h => absurd h List.not_mem_nil) dX7_lesserOf_14
  · refine lv_iload_n hx hb dX7_lesserOf_6 rfl (lv_at hl 0 rfl) ?_
    refine lv_goto (tgt := 14) hx hb dX7_lesserOf_7 (by decide) ?_
    have e9 : a1 = (pX7_lesserOf a1) := by simp only [pX7_lesserOf, if_neg c_1]
    exact W.iret (v := a1) hx hb hr (fun t ht hW => ⟨_, rfl, e9, ht⟩) (fun _ h => absurd h List.not_mem_nil) dX7_lesserOf_14
theorem bS_X7_lesserOf : BS yX7_lesserOf cX7_lesserOf 1 (some .int) 1 := ⟨wcd_X7_lesserOf, wst_X7_lesserOf, win_RX7, by decide +kernel⟩
def pX7_greaterOf (a1 : Int32) : Int32 := (if 16 ≤ a1 then ((a1 - (16 : Int32)) + (4 : Int32)) else (a1 + (1 : Int32)))
set_option maxHeartbeats 4000000 in
set_option maxRecDepth 100000 in
theorem kX7_greaterOf (l : Launch) (D : va_G) (cyC cyI cyO : ClassId) (a1 : Int32) : RO l yX7_greaterOf (Ty yX7_greaterOf cX7_greaterOf 1 (some .int)) ({ frames := 0, cells := 0, slots := 0, locals := 0 } : Room) D cyC cyI cyO [] [.int a1] (pX7_greaterOf a1) := by
  refine Met.ofW (cc := cX7_greaterOf) (maxL := 1) (ret := (some .int)) (by decide) rfl ?_
  intro p e s m args below meth cd s₁ B hml hv
  obtain ⟨rfl, hP, hK⟩ := hv
  have hx := B.exec
  have hb := B.bytes
  have hr := B.returns
  have hts : ∀ w ∈ TB, w.before ([.int a1] : List Value).toArray s = true := fun w h => atoms_spec (ws := (Ty yX7_greaterOf cX7_greaterOf 1 (some .int))) B.pre w (List.mem_cons_of_mem _ h)
  have hown : s.vm.findClass RX7 = some m.cls := findClass_of_methodNamed B.named
  have hlocks := B.notSynchronized
  have hl := lv_entry ([.int a1]) (n := 1) (Nat.le_of_ble_eq_true rfl)
  rw [lg_entry_eq]
  generalize (lg_sl ([.int a1]) ++ List.replicate (1 - (lg_sl ([.int a1])).length) Slot.unset).toArray = ls at hl ⊢
  have hl : lv_has ls 1 [(0, .int a1)] := hl
  refine lv_iload_n hx hb dX7_greaterOf_0 rfl (lv_at hl 0 rfl) ?_
  refine lv_bipush (v := 16) hx hb dX7_greaterOf_1 (by decide) ?_
  refine lv_icmp_ge (tgt := 12) hx hb dX7_greaterOf_3 (by decide) (fun c_1 => ?_) (fun c_1 => ?_)
  · refine lv_iload_n hx hb dX7_greaterOf_12 rfl (lv_at hl 0 rfl) ?_
    refine lv_bipush (v := 16) hx hb dX7_greaterOf_13 (by decide) ?_
    refine lv_isub hx hb dX7_greaterOf_15 ?_
    refine lv_iconst (v := 4) hx hb dX7_greaterOf_16 (by decide) ?_
    refine lv_iadd hx hb dX7_greaterOf_17 ?_
    have e9 : ((a1 - (16 : Int32)) + (4 : Int32)) = (pX7_greaterOf a1) := by simp only [pX7_greaterOf, if_pos c_1]
    exact W.iret (v := ((a1 - (16 : Int32)) + (4 : Int32))) hx hb hr (fun t ht hW => ⟨_, rfl, e9, ht⟩) (fun _ h => absurd h List.not_mem_nil) dX7_greaterOf_18
  · refine lv_iload_n hx hb dX7_greaterOf_6 rfl (lv_at hl 0 rfl) ?_
    refine lv_iconst (v := 1) hx hb dX7_greaterOf_7 (by decide) ?_
    refine lv_iadd hx hb dX7_greaterOf_8 ?_
    refine lv_goto (tgt := 18) hx hb dX7_greaterOf_9 (by decide) ?_
    have e9 : (a1 + (1 : Int32)) = (pX7_greaterOf a1) := by simp only [pX7_greaterOf, if_neg c_1]
    exact W.iret (v := (a1 + (1 : Int32))) hx hb hr (fun t ht hW => ⟨_, rfl, e9, ht⟩) (fun _ h => absurd h List.not_mem_nil) dX7_greaterOf_18
theorem bS_X7_greaterOf : BS yX7_greaterOf cX7_greaterOf 1 (some .int) 1 := ⟨wcd_X7_greaterOf, wst_X7_greaterOf, win_RX7, by decide +kernel⟩
def pX7_isOfRoof (a1 : Int32) (a2 : Int32) : Int32 := (if (pX7_isGangway a1) = 0 then 0 else (if (pX7_lesserOf a1) = a2 then 1 else (if (pX7_greaterOf a1) = a2 then 1 else 0)))
set_option maxHeartbeats 4000000 in
set_option maxRecDepth 100000 in
theorem kX7_isOfRoof (l : Launch) (D : va_G) (cyC cyI cyO : ClassId) (a1 : Int32) (a2 : Int32) : RO l yX7_isOfRoof (Ty yX7_isOfRoof cX7_isOfRoof 2 (some .boolean)) ({ frames := 2, cells := 0, slots := 0, locals := 42 } : Room) D cyC cyI cyO [] [.int a1, .int a2] (pX7_isOfRoof a1 a2) := by
  refine Met.ofW (cc := cX7_isOfRoof) (maxL := 2) (ret := (some .boolean)) (by decide) rfl ?_
  intro p e s m args below meth cd s₁ B hml hv
  obtain ⟨rfl, hP, hK⟩ := hv
  have hx := B.exec
  have hb := B.bytes
  have hr := B.returns
  have hts : ∀ w ∈ TB, w.before ([.int a1, .int a2] : List Value).toArray s = true := fun w h => atoms_spec (ws := (Ty yX7_isOfRoof cX7_isOfRoof 2 (some .boolean))) B.pre w (List.mem_cons_of_mem _ h)
  have hown : s.vm.findClass RX7 = some m.cls := findClass_of_methodNamed B.named
  have hlocks := B.notSynchronized
  have hl := lv_entry ([.int a1, .int a2]) (n := 2) (Nat.le_of_ble_eq_true rfl)
  rw [lg_entry_eq]
  generalize (lg_sl ([.int a1, .int a2]) ++ List.replicate (2 - (lg_sl ([.int a1, .int a2])).length) Slot.unset).toArray = ls at hl ⊢
  have hl : lv_has ls 2 [(0, .int a1), (1, .int a2)] := hl
  refine lv_iload_n hx hb dX7_isOfRoof_0 rfl (lv_at hl 0 rfl) ?_
  refine rS (As := [.int a1]) (rest := []) hx hb hml hown hts hl.1 (kX7_isGangway l D cyC cyI cyO a1) bS_X7_isGangway  wml_RX7_29 ⟨rfl, rfl⟩ ⟨Nat.le_of_ble_eq_true rfl, Nat.le_of_ble_eq_true rfl, Nat.zero_le _, Nat.zero_le _⟩ [] rfl hP hK rfl rfl (Nat.le_of_ble_eq_true rfl) dX7_isOfRoof_1 ?_
  refine lv_if_eq (tgt := 27) hx hb dX7_isOfRoof_4 (by decide) (fun c_1 => ?_) (fun c_1 => ?_)
  · refine lv_iconst (v := 0) hx hb dX7_isOfRoof_27 (by decide) ?_
    have e9 : 0 = (pX7_isOfRoof a1 a2) := by simp only [pX7_isOfRoof, if_pos c_1]
    exact W.zret (ty := .boolean) (v := 0) hx hb hr (by rfl) (fun t ht hW => ⟨_, rfl, e9, ht⟩) (fun _ h => absurd h List.not_mem_nil) dX7_isOfRoof_28
  · refine lv_iload_n hx hb dX7_isOfRoof_7 rfl (lv_at hl 0 rfl) ?_
    refine rS (As := [.int a1]) (rest := []) hx hb hml hown hts hl.1 (kX7_lesserOf l D cyC cyI cyO a1) bS_X7_lesserOf  wml_RX7_45 ⟨rfl, rfl⟩ ⟨Nat.le_of_ble_eq_true rfl, Nat.le_of_ble_eq_true rfl, Nat.zero_le _, Nat.zero_le _⟩ [] rfl hP hK rfl rfl (Nat.le_of_ble_eq_true rfl) dX7_isOfRoof_8 ?_
    refine lv_iload_n hx hb dX7_isOfRoof_11 rfl (lv_at hl 1 rfl) ?_
    refine lv_icmp_eq (tgt := 23) hx hb dX7_isOfRoof_12 (by decide) (fun c_2 => ?_) (fun c_2 => ?_)
    · refine lv_iconst (v := 1) hx hb dX7_isOfRoof_23 (by decide) ?_
      refine lv_goto (tgt := 28) hx hb dX7_isOfRoof_24 (by decide) ?_
      have e9 : 1 = (pX7_isOfRoof a1 a2) := by simp only [pX7_isOfRoof, if_neg c_1, if_pos c_2]
      exact W.zret (ty := .boolean) (v := 1) hx hb hr (by rfl) (fun t ht hW => ⟨_, rfl, e9, ht⟩) (fun _ h => absurd h List.not_mem_nil) dX7_isOfRoof_28
    · refine lv_iload_n hx hb dX7_isOfRoof_15 rfl (lv_at hl 0 rfl) ?_
      refine rS (As := [.int a1]) (rest := []) hx hb hml hown hts hl.1 (kX7_greaterOf l D cyC cyI cyO a1) bS_X7_greaterOf  wml_RX7_49 ⟨rfl, rfl⟩ ⟨Nat.le_of_ble_eq_true rfl, Nat.le_of_ble_eq_true rfl, Nat.zero_le _, Nat.zero_le _⟩ [] rfl hP hK rfl rfl (Nat.le_of_ble_eq_true rfl) dX7_isOfRoof_16 ?_
      refine lv_iload_n hx hb dX7_isOfRoof_19 rfl (lv_at hl 1 rfl) ?_
      refine lv_icmp_ne (tgt := 27) hx hb dX7_isOfRoof_20 (by decide) (fun c_3 => ?_) (fun c_3 => ?_)
      · refine lv_iconst (v := 0) hx hb dX7_isOfRoof_27 (by decide) ?_
        have e9 : 0 = (pX7_isOfRoof a1 a2) := by simp only [pX7_isOfRoof, if_neg c_1, if_neg c_2, if_neg c_3]
        exact W.zret (ty := .boolean) (v := 0) hx hb hr (by rfl) (fun t ht hW => ⟨_, rfl, e9, ht⟩) (fun _ h => absurd h List.not_mem_nil) dX7_isOfRoof_28
      · refine lv_iconst (v := 1) hx hb dX7_isOfRoof_23 (by decide) ?_
        refine lv_goto (tgt := 28) hx hb dX7_isOfRoof_24 (by decide) ?_
        have e9 : 1 = (pX7_isOfRoof a1 a2) := by simp only [pX7_isOfRoof, if_neg c_1, if_neg c_2, if_pos c_3]
        exact W.zret (ty := .boolean) (v := 1) hx hb hr (by rfl) (fun t ht hW => ⟨_, rfl, e9, ht⟩) (fun _ h => absurd h List.not_mem_nil) dX7_isOfRoof_28
theorem z_X7_isOfRoof (a1 : Int32) (a2 : Int32) : (pX7_isOfRoof a1 a2) = 0 ∨ (pX7_isOfRoof a1 a2) = 1 := by
  unfold pX7_isOfRoof
  (repeat' split) <;> first | with_reducible exact Or.inl rfl | with_reducible exact Or.inr rfl
theorem bS_X7_isOfRoof : BS yX7_isOfRoof cX7_isOfRoof 2 (some .boolean) 2 := ⟨wcd_X7_isOfRoof, wst_X7_isOfRoof, win_RX7, by decide +kernel⟩
def pX7_otherOf (a1 : Int32) (a2 : Int32) : Int32 := (if (pX7_lesserOf a1) = a2 then (pX7_greaterOf a1) else (pX7_lesserOf a1))
set_option maxHeartbeats 4000000 in
set_option maxRecDepth 100000 in
theorem kX7_otherOf (l : Launch) (D : va_G) (cyC cyI cyO : ClassId) (a1 : Int32) (a2 : Int32) : RO l yX7_otherOf (Ty yX7_otherOf cX7_otherOf 2 (some .int)) ({ frames := 1, cells := 0, slots := 0, locals := 20 } : Room) D cyC cyI cyO [] [.int a1, .int a2] (pX7_otherOf a1 a2) := by
  refine Met.ofW (cc := cX7_otherOf) (maxL := 2) (ret := (some .int)) (by decide) rfl ?_
  intro p e s m args below meth cd s₁ B hml hv
  obtain ⟨rfl, hP, hK⟩ := hv
  have hx := B.exec
  have hb := B.bytes
  have hr := B.returns
  have hts : ∀ w ∈ TB, w.before ([.int a1, .int a2] : List Value).toArray s = true := fun w h => atoms_spec (ws := (Ty yX7_otherOf cX7_otherOf 2 (some .int))) B.pre w (List.mem_cons_of_mem _ h)
  have hown : s.vm.findClass RX7 = some m.cls := findClass_of_methodNamed B.named
  have hlocks := B.notSynchronized
  have hl := lv_entry ([.int a1, .int a2]) (n := 2) (Nat.le_of_ble_eq_true rfl)
  rw [lg_entry_eq]
  generalize (lg_sl ([.int a1, .int a2]) ++ List.replicate (2 - (lg_sl ([.int a1, .int a2])).length) Slot.unset).toArray = ls at hl ⊢
  have hl : lv_has ls 2 [(0, .int a1), (1, .int a2)] := hl
  refine lv_iload_n hx hb dX7_otherOf_0 rfl (lv_at hl 0 rfl) ?_
  refine rS (As := [.int a1]) (rest := []) hx hb hml hown hts hl.1 (kX7_lesserOf l D cyC cyI cyO a1) bS_X7_lesserOf  wml_RX7_45 ⟨rfl, rfl⟩ ⟨Nat.le_of_ble_eq_true rfl, Nat.le_of_ble_eq_true rfl, Nat.zero_le _, Nat.zero_le _⟩ [] rfl hP hK rfl rfl (Nat.le_of_ble_eq_true rfl) dX7_otherOf_1 ?_
  refine lv_iload_n hx hb dX7_otherOf_4 rfl (lv_at hl 1 rfl) ?_
  refine lv_icmp_ne (tgt := 15) hx hb dX7_otherOf_5 (by decide) (fun c_1 => ?_) (fun c_1 => ?_)
  · refine lv_iload_n hx hb dX7_otherOf_15 rfl (lv_at hl 0 rfl) ?_
    refine rS (As := [.int a1]) (rest := []) hx hb hml hown hts hl.1 (kX7_lesserOf l D cyC cyI cyO a1) bS_X7_lesserOf  wml_RX7_45 ⟨rfl, rfl⟩ ⟨Nat.le_of_ble_eq_true rfl, Nat.le_of_ble_eq_true rfl, Nat.zero_le _, Nat.zero_le _⟩ [] rfl hP hK rfl rfl (Nat.le_of_ble_eq_true rfl) dX7_otherOf_16 ?_
    have e9 : (pX7_lesserOf a1) = (pX7_otherOf a1 a2) := by simp only [pX7_otherOf, if_neg c_1]
    exact W.iret (v := (pX7_lesserOf a1)) hx hb hr (fun t ht hW => ⟨_, rfl, e9, ht⟩) (fun _ h => absurd h List.not_mem_nil) dX7_otherOf_19
  · refine lv_iload_n hx hb dX7_otherOf_8 rfl (lv_at hl 0 rfl) ?_
    refine rS (As := [.int a1]) (rest := []) hx hb hml hown hts hl.1 (kX7_greaterOf l D cyC cyI cyO a1) bS_X7_greaterOf  wml_RX7_49 ⟨rfl, rfl⟩ ⟨Nat.le_of_ble_eq_true rfl, Nat.le_of_ble_eq_true rfl, Nat.zero_le _, Nat.zero_le _⟩ [] rfl hP hK rfl rfl (Nat.le_of_ble_eq_true rfl) dX7_otherOf_9 ?_
    refine lv_goto (tgt := 19) hx hb dX7_otherOf_12 (by decide) ?_
    have e9 : (pX7_greaterOf a1) = (pX7_otherOf a1 a2) := by simp only [pX7_otherOf, if_pos c_1]
    exact W.iret (v := (pX7_greaterOf a1)) hx hb hr (fun t ht hW => ⟨_, rfl, e9, ht⟩) (fun _ h => absurd h List.not_mem_nil) dX7_otherOf_19
theorem bS_X7_otherOf : BS yX7_otherOf cX7_otherOf 2 (some .int) 2 := ⟨wcd_X7_otherOf, wst_X7_otherOf, win_RX7, by decide +kernel⟩
def pX7_isIn (a1 : Int32) (a2 : Int32) : Int32 := (if ((a1 >>> (a2 &&& 31)) &&& (1 : Int32)) = 1 then 1 else 0)
set_option maxHeartbeats 4000000 in
set_option maxRecDepth 100000 in
theorem kX7_isIn (l : Launch) (D : va_G) (cyC cyI cyO : ClassId) (a1 : Int32) (a2 : Int32) : RO l yX7_isIn (Ty yX7_isIn cX7_isIn 2 (some .boolean)) ({ frames := 0, cells := 0, slots := 0, locals := 0 } : Room) D cyC cyI cyO [] [.int a1, .int a2] (pX7_isIn a1 a2) := by
  refine Met.ofW (cc := cX7_isIn) (maxL := 2) (ret := (some .boolean)) (by decide) rfl ?_
  intro p e s m args below meth cd s₁ B hml hv
  obtain ⟨rfl, hP, hK⟩ := hv
  have hx := B.exec
  have hb := B.bytes
  have hr := B.returns
  have hts : ∀ w ∈ TB, w.before ([.int a1, .int a2] : List Value).toArray s = true := fun w h => atoms_spec (ws := (Ty yX7_isIn cX7_isIn 2 (some .boolean))) B.pre w (List.mem_cons_of_mem _ h)
  have hown : s.vm.findClass RX7 = some m.cls := findClass_of_methodNamed B.named
  have hlocks := B.notSynchronized
  have hl := lv_entry ([.int a1, .int a2]) (n := 2) (Nat.le_of_ble_eq_true rfl)
  rw [lg_entry_eq]
  generalize (lg_sl ([.int a1, .int a2]) ++ List.replicate (2 - (lg_sl ([.int a1, .int a2])).length) Slot.unset).toArray = ls at hl ⊢
  have hl : lv_has ls 2 [(0, .int a1), (1, .int a2)] := hl
  refine lv_iload_n hx hb dX7_isIn_0 rfl (lv_at hl 0 rfl) ?_
  refine lv_iload_n hx hb dX7_isIn_1 rfl (lv_at hl 1 rfl) ?_
  refine lv_ishr hx hb dX7_isIn_2 ?_
  refine lv_iconst (v := 1) hx hb dX7_isIn_3 (by decide) ?_
  refine lv_iand hx hb dX7_isIn_4 ?_
  refine lv_iconst (v := 1) hx hb dX7_isIn_5 (by decide) ?_
  refine lv_icmp_ne (tgt := 13) hx hb dX7_isIn_6 (by decide) (fun c_1 => ?_) (fun c_1 => ?_)
  · refine lv_iconst (v := 0) hx hb dX7_isIn_13 (by decide) ?_
    have e9 : 0 = (pX7_isIn a1 a2) := by simp only [pX7_isIn, if_neg c_1]
    exact W.zret (ty := .boolean) (v := 0) hx hb hr (by rfl) (fun t ht hW => ⟨_, rfl, e9, ht⟩) (fun _ h => absurd h List.not_mem_nil) dX7_isIn_14
  · refine lv_iconst (v := 1) hx hb dX7_isIn_9 (by decide) ?_
    refine lv_goto (tgt := 14) hx hb dX7_isIn_10 (by decide) ?_
    have e9 : 1 = (pX7_isIn a1 a2) := by simp only [pX7_isIn, if_pos c_1]
    exact W.zret (ty := .boolean) (v := 1) hx hb hr (by rfl) (fun t ht hW => ⟨_, rfl, e9, ht⟩) (fun _ h => absurd h List.not_mem_nil) dX7_isIn_14
theorem z_X7_isIn (a1 : Int32) (a2 : Int32) : (pX7_isIn a1 a2) = 0 ∨ (pX7_isIn a1 a2) = 1 := by
  unfold pX7_isIn
  (repeat' split) <;> first | with_reducible exact Or.inl rfl | with_reducible exact Or.inr rfl
theorem bS_X7_isIn : BS yX7_isIn cX7_isIn 2 (some .boolean) 2 := ⟨wcd_X7_isIn, wst_X7_isIn, win_RX7, by decide +kernel⟩
def pX7_ones_L4 (a1 : Int32) : Nat → Int32 := fo (fun i x_i => (x_i + ((a1 >>> ((nI i) &&& 31)) &&& (1 : Int32)))) 0
theorem pX7_ones_L4_s (a1 : Int32) (i : Nat) : pX7_ones_L4 a1 (i + 1) = ((pX7_ones_L4 a1 i) + ((a1 >>> ((nI i) &&& 31)) &&& (1 : Int32))) := rfl
theorem pX7_ones_L4_0 (a1 : Int32) : pX7_ones_L4 a1 0 = 0 := rfl
def pX7_ones (a1 : Int32) : Int32 := (pX7_ones_L4 a1 16)
set_option maxHeartbeats 4000000 in
set_option maxRecDepth 100000 in
theorem kX7_ones (l : Launch) (D : va_G) (cyC cyI cyO : ClassId) (a1 : Int32) : RO l yX7_ones (Ty yX7_ones cX7_ones 3 (some .int)) ({ frames := 0, cells := 0, slots := 0, locals := 0 } : Room) D cyC cyI cyO [] [.int a1] (pX7_ones a1) := by
  refine Met.ofW (cc := cX7_ones) (maxL := 3) (ret := (some .int)) (by decide) rfl ?_
  intro p e s m args below meth cd s₁ B hml hv
  obtain ⟨rfl, hP, hK⟩ := hv
  have hx := B.exec
  have hb := B.bytes
  have hr := B.returns
  have hts : ∀ w ∈ TB, w.before ([.int a1] : List Value).toArray s = true := fun w h => atoms_spec (ws := (Ty yX7_ones cX7_ones 3 (some .int))) B.pre w (List.mem_cons_of_mem _ h)
  have hown : s.vm.findClass RX7 = some m.cls := findClass_of_methodNamed B.named
  have hlocks := B.notSynchronized
  have hl := lv_entry ([.int a1]) (n := 3) (Nat.le_of_ble_eq_true rfl)
  rw [lg_entry_eq]
  generalize (lg_sl ([.int a1]) ++ List.replicate (3 - (lg_sl ([.int a1])).length) Slot.unset).toArray = ls at hl ⊢
  have hl : lv_has ls 3 [(0, .int a1)] := hl
  refine lv_iconst (v := 0) hx hb dX7_ones_0 (by decide) ?_
  refine lv_istore_n (lv' := [(1, .int 0), (0, .int a1)]) hx hb dX7_ones_1 rfl hl (by decide) rfl (fun ls hl => ?_)
  refine lv_iconst (v := 0) hx hb dX7_ones_2 (by decide) ?_
  refine lv_istore_n (lv' := [(2, .int 0), (1, .int 0), (0, .int a1)]) hx hb dX7_ones_3 rfl hl (by decide) rfl (fun ls hl => ?_)
  have key_4 : ∀ k i : Nat, i + k = 16 → ∀ (ls : Array Slot), lv_has ls 3 [(0, .int a1), (1, .int (pX7_ones_L4 a1 i)), (2, .int (nI i))] → W p l e (headSpec (Ty yX7_ones cX7_ones 3 (some .int)) ({ frames := 0, cells := 0, slots := 0, locals := 0 } : Room)).room s m ([.int a1] : List Value).toArray below meth cd s.heap [] 0 0 (MQ below (vp_Si (fun x => x = (pX7_ones a1))) ([.int a1] : List Value).toArray s 0 0 (fun _ => False)) (F0 m 4 ls []) := by
    intro k
    induction k with
    | zero =>
      intro i hi ls hl
      obtain rfl : i = 16 := hi
      obtain ⟨z_1, hz_1⟩ : ∃ q, q = (pX7_ones_L4 a1 16) := ⟨_, rfl⟩
      rw [← hz_1] at hl
      refine lv_iload_n hx hb dX7_ones_4 rfl (lv_at hl 2 rfl) ?_
      refine lv_bipush (v := 16) hx hb dX7_ones_5 (by decide) ?_
      refine lv_icmp_ge (tgt := 24) hx hb dX7_ones_7 (by decide) (fun c_2 => ?_) (fun c_2 => absurd (le_of (C := 16) (N := 16) (by decide)) c_2)
      refine lv_iload_n hx hb dX7_ones_24 rfl (lv_at hl 1 rfl) ?_
      have e9 : z_1 = (pX7_ones a1) := by simp only [pX7_ones, ← hz_1]
      exact W.iret (v := z_1) hx hb hr (fun t ht hW => ⟨_, rfl, e9, ht⟩) (fun _ h => absurd h List.not_mem_nil) dX7_ones_25
    | succ k ih_4 =>
      intro i hi ls hl
      have hlt : i < 16 := by omega
      refine lv_iload_n hx hb dX7_ones_4 rfl (lv_at hl 2 rfl) ?_
      refine lv_bipush (v := 16) hx hb dX7_ones_5 (by decide) ?_
      refine lv_icmp_ge (tgt := 24) hx hb dX7_ones_7 (by decide) (fun c_3 => absurd c_3 (nle_of (C := 16) (N := 16) (by decide) hlt (by decide))) (fun c_3 => ?_)
      refine lv_iload_n hx hb dX7_ones_10 rfl (lv_at hl 1 rfl) ?_
      refine lv_iload_n hx hb dX7_ones_11 rfl (lv_at hl 0 rfl) ?_
      refine lv_iload_n hx hb dX7_ones_12 rfl (lv_at hl 2 rfl) ?_
      refine lv_ishr hx hb dX7_ones_13 ?_
      refine lv_iconst (v := 1) hx hb dX7_ones_14 (by decide) ?_
      refine lv_iand hx hb dX7_ones_15 ?_
      refine lv_iadd hx hb dX7_ones_16 ?_
      refine lv_istore_n (lv' := [(1, .int ((pX7_ones_L4 a1 i) + ((a1 >>> ((nI i) &&& 31)) &&& (1 : Int32)))), (0, .int a1), (2, .int (nI i))]) hx hb dX7_ones_17 rfl hl (by decide) rfl (fun ls hl => ?_)
      refine lv_iinc (v := (nI (i + 1))) (lv' := [(2, .int (nI (i + 1))), (1, .int ((pX7_ones_L4 a1 i) + ((a1 >>> ((nI i) &&& 31)) &&& (1 : Int32)))), (0, .int a1)]) hx hb dX7_ones_18 hl (k := 2) rfl (nI_succ i).symm (by decide) rfl (fun ls hl => ?_)
      refine lv_goto (tgt := 4) hx hb dX7_ones_21 (by decide) ?_
      have e8 : pX7_ones_L4 a1 (i + 1) = ((pX7_ones_L4 a1 i) + ((a1 >>> ((nI i) &&& 31)) &&& (1 : Int32))) := by rw [pX7_ones_L4_s]
      exact ih_4 (i + 1) (by omega) ls (by rw [e8]; exact lv_sub hl [2, 1, 0] rfl)
  exact key_4 16 0 (Nat.zero_add 16) ls (lv_sub hl [2, 1, 0] rfl)
theorem bS_X7_ones : BS yX7_ones cX7_ones 3 (some .int) 1 := ⟨wcd_X7_ones, wst_X7_ones, win_RX7, by decide +kernel⟩
def pX7_nextTo (a1 : Int32) (a2 : Int32) : Int32 := (if a2 = 0 then (if (a1 - a1 / (4 : Int32) * (4 : Int32)) = 3 then (-4) else (a1 + (1 : Int32))) else (if a2 = 1 then (if (a1 / (4 : Int32)) = 3 then (-4) else (a1 + (4 : Int32))) else (if a2 = 2 then (if (a1 - a1 / (4 : Int32) * (4 : Int32)) = 0 then (-4) else (a1 - (1 : Int32))) else (if (a1 / (4 : Int32)) = 0 then (-4) else (a1 - (4 : Int32))))))
set_option maxHeartbeats 4000000 in
set_option maxRecDepth 100000 in
theorem kX7_nextTo (l : Launch) (D : va_G) (cyC cyI cyO : ClassId) (a1 : Int32) (a2 : Int32) : RO l yX7_nextTo (Ty yX7_nextTo cX7_nextTo 4 (some .int)) ({ frames := 0, cells := 0, slots := 0, locals := 0 } : Room) D cyC cyI cyO [] [.int a1, .int a2] (pX7_nextTo a1 a2) := by
  refine Met.ofW (cc := cX7_nextTo) (maxL := 4) (ret := (some .int)) (by decide) rfl ?_
  intro p e s m args below meth cd s₁ B hml hv
  obtain ⟨rfl, hP, hK⟩ := hv
  have hx := B.exec
  have hb := B.bytes
  have hr := B.returns
  have hts : ∀ w ∈ TB, w.before ([.int a1, .int a2] : List Value).toArray s = true := fun w h => atoms_spec (ws := (Ty yX7_nextTo cX7_nextTo 4 (some .int))) B.pre w (List.mem_cons_of_mem _ h)
  have hown : s.vm.findClass RX7 = some m.cls := findClass_of_methodNamed B.named
  have hlocks := B.notSynchronized
  have hl := lv_entry ([.int a1, .int a2]) (n := 4) (Nat.le_of_ble_eq_true rfl)
  rw [lg_entry_eq]
  generalize (lg_sl ([.int a1, .int a2]) ++ List.replicate (4 - (lg_sl ([.int a1, .int a2])).length) Slot.unset).toArray = ls at hl ⊢
  have hl : lv_has ls 4 [(0, .int a1), (1, .int a2)] := hl
  refine lv_iload_n hx hb dX7_nextTo_0 rfl (lv_at hl 0 rfl) ?_
  refine lv_iconst (v := 4) hx hb dX7_nextTo_1 (by decide) ?_
  refine lv_idiv hx hb dX7_nextTo_2 (by decide) ?_
  refine lv_istore_n (lv' := [(2, .int (a1 / (4 : Int32))), (0, .int a1), (1, .int a2)]) hx hb dX7_nextTo_3 rfl hl (by decide) rfl (fun ls hl => ?_)
  refine lv_iload_n hx hb dX7_nextTo_4 rfl (lv_at hl 1 rfl) ?_
  refine lv_iconst (v := 4) hx hb dX7_nextTo_5 (by decide) ?_
  refine lv_irem hx hb dX7_nextTo_6 (by decide) ?_
  refine lv_istore_n (lv' := [(3, .int (a1 - a1 / (4 : Int32) * (4 : Int32))), (2, .int (a1 / (4 : Int32))), (0, .int a1), (1, .int a2)]) hx hb dX7_nextTo_7 rfl hl (by decide) rfl (fun ls hl => ?_)
  refine lv_iload_n hx hb dX7_nextTo_8 rfl (lv_at hl 3 rfl) ?_
  by_cases c_1 : a2 = 0
  · refine lv_tableIn (off := 27) (tgt := 36) hx hb dX7_nextTo_9 (by rw [c_1]; decide) (by rw [c_1]; decide) (by rw [c_1]; rfl) (by decide) ?_
    refine lv_iload_n hx hb dX7_nextTo_36 rfl (lv_at hl 0 rfl) ?_
    refine lv_iconst (v := 3) hx hb dX7_nextTo_37 (by decide) ?_
    refine lv_icmp_ne (tgt := 46) hx hb dX7_nextTo_38 (by decide) (fun c_4 => ?_) (fun c_4 => ?_)
    · refine lv_iload_n hx hb dX7_nextTo_46 rfl (lv_at hl 2 rfl) ?_
      refine lv_iconst (v := 1) hx hb dX7_nextTo_47 (by decide) ?_
      refine lv_iadd hx hb dX7_nextTo_48 ?_
      have e9 : (a1 + (1 : Int32)) = (pX7_nextTo a1 a2) := by simp only [pX7_nextTo, if_pos c_1, if_neg c_4]
      exact W.iret (v := (a1 + (1 : Int32))) hx hb hr (fun t ht hW => ⟨_, rfl, e9, ht⟩) (fun _ h => absurd h List.not_mem_nil) dX7_nextTo_49
    · refine lv_bipush (v := (-4)) hx hb dX7_nextTo_41 (by decide) ?_
      refine lv_goto (tgt := 49) hx hb dX7_nextTo_43 (by decide) ?_
      have e9 : (-4) = (pX7_nextTo a1 a2) := by simp only [pX7_nextTo, if_pos c_1, if_pos c_4]
      exact W.iret (v := (-4)) hx hb hr (fun t ht hW => ⟨_, rfl, e9, ht⟩) (fun _ h => absurd h List.not_mem_nil) dX7_nextTo_49
  · by_cases c_2 : a2 = 1
    · refine lv_tableIn (off := 41) (tgt := 50) hx hb dX7_nextTo_9 (by rw [c_2]; decide) (by rw [c_2]; decide) (by rw [c_2]; rfl) (by decide) ?_
      refine lv_iload_n hx hb dX7_nextTo_50 rfl (lv_at hl 1 rfl) ?_
      refine lv_iconst (v := 3) hx hb dX7_nextTo_51 (by decide) ?_
      refine lv_icmp_ne (tgt := 60) hx hb dX7_nextTo_52 (by decide) (fun c_5 => ?_) (fun c_5 => ?_)
      · refine lv_iload_n hx hb dX7_nextTo_60 rfl (lv_at hl 2 rfl) ?_
        refine lv_iconst (v := 4) hx hb dX7_nextTo_61 (by decide) ?_
        refine lv_iadd hx hb dX7_nextTo_62 ?_
        have e9 : (a1 + (4 : Int32)) = (pX7_nextTo a1 a2) := by simp only [pX7_nextTo, if_neg c_1, if_pos c_2, if_neg c_5]
        exact W.iret (v := (a1 + (4 : Int32))) hx hb hr (fun t ht hW => ⟨_, rfl, e9, ht⟩) (fun _ h => absurd h List.not_mem_nil) dX7_nextTo_63
      · refine lv_bipush (v := (-4)) hx hb dX7_nextTo_55 (by decide) ?_
        refine lv_goto (tgt := 63) hx hb dX7_nextTo_57 (by decide) ?_
        have e9 : (-4) = (pX7_nextTo a1 a2) := by simp only [pX7_nextTo, if_neg c_1, if_pos c_2, if_pos c_5]
        exact W.iret (v := (-4)) hx hb hr (fun t ht hW => ⟨_, rfl, e9, ht⟩) (fun _ h => absurd h List.not_mem_nil) dX7_nextTo_63
    · by_cases c_3 : a2 = 2
      · refine lv_tableIn (off := 55) (tgt := 64) hx hb dX7_nextTo_9 (by rw [c_3]; decide) (by rw [c_3]; decide) (by rw [c_3]; rfl) (by decide) ?_
        refine lv_iload_n hx hb dX7_nextTo_64 rfl (lv_at hl 0 rfl) ?_
        refine lv_if_ne (tgt := 73) hx hb dX7_nextTo_65 (by decide) (fun c_6 => ?_) (fun c_6 => ?_)
        · refine lv_iload_n hx hb dX7_nextTo_73 rfl (lv_at hl 2 rfl) ?_
          refine lv_iconst (v := 1) hx hb dX7_nextTo_74 (by decide) ?_
          refine lv_isub hx hb dX7_nextTo_75 ?_
          have e9 : (a1 - (1 : Int32)) = (pX7_nextTo a1 a2) := by simp only [pX7_nextTo, if_neg c_1, if_neg c_2, if_pos c_3, if_neg c_6]
          exact W.iret (v := (a1 - (1 : Int32))) hx hb hr (fun t ht hW => ⟨_, rfl, e9, ht⟩) (fun _ h => absurd h List.not_mem_nil) dX7_nextTo_76
        · refine lv_bipush (v := (-4)) hx hb dX7_nextTo_68 (by decide) ?_
          refine lv_goto (tgt := 76) hx hb dX7_nextTo_70 (by decide) ?_
          have e9 : (-4) = (pX7_nextTo a1 a2) := by simp only [pX7_nextTo, if_neg c_1, if_neg c_2, if_pos c_3, if_pos c_6]
          exact W.iret (v := (-4)) hx hb hr (fun t ht hW => ⟨_, rfl, e9, ht⟩) (fun _ h => absurd h List.not_mem_nil) dX7_nextTo_76
      · have nc_1 : (a2 : Int32).toInt ≠ 0 := fun h => c_1 (Int32.toInt_inj.mp (h.trans (by decide)))
        have nc_2 : (a2 : Int32).toInt ≠ 1 := fun h => c_2 (Int32.toInt_inj.mp (h.trans (by decide)))
        have nc_3 : (a2 : Int32).toInt ≠ 2 := fun h => c_3 (Int32.toInt_inj.mp (h.trans (by decide)))
        refine lv_tableOut (tgt := 77) hx hb dX7_nextTo_9 (by omega) (by decide) ?_
        refine lv_iload_n hx hb dX7_nextTo_77 rfl (lv_at hl 1 rfl) ?_
        refine lv_if_ne (tgt := 86) hx hb dX7_nextTo_78 (by decide) (fun c_7 => ?_) (fun c_7 => ?_)
        · refine lv_iload_n hx hb dX7_nextTo_86 rfl (lv_at hl 2 rfl) ?_
          refine lv_iconst (v := 4) hx hb dX7_nextTo_87 (by decide) ?_
          refine lv_isub hx hb dX7_nextTo_88 ?_
          have e9 : (a1 - (4 : Int32)) = (pX7_nextTo a1 a2) := by simp only [pX7_nextTo, if_neg c_1, if_neg c_2, if_neg c_3, if_neg c_7]
          exact W.iret (v := (a1 - (4 : Int32))) hx hb hr (fun t ht hW => ⟨_, rfl, e9, ht⟩) (fun _ h => absurd h List.not_mem_nil) dX7_nextTo_89
        · refine lv_bipush (v := (-4)) hx hb dX7_nextTo_81 (by decide) ?_
          refine lv_goto (tgt := 89) hx hb dX7_nextTo_83 (by decide) ?_
          have e9 : (-4) = (pX7_nextTo a1 a2) := by simp only [pX7_nextTo, if_neg c_1, if_neg c_2, if_neg c_3, if_pos c_7]
          exact W.iret (v := (-4)) hx hb hr (fun t ht hW => ⟨_, rfl, e9, ht⟩) (fun _ h => absurd h List.not_mem_nil) dX7_nextTo_89
theorem bS_X7_nextTo : BS yX7_nextTo cX7_nextTo 4 (some .int) 2 := ⟨wcd_X7_nextTo, wst_X7_nextTo, win_RX7, by decide +kernel⟩
def pX7_isNumber (a1 : Int32) (a2 : Int32) : Int32 := (if a1 = 0 then (pX7_isRoof a2) else (pX7_isGangway a2))
set_option maxHeartbeats 4000000 in
set_option maxRecDepth 100000 in
theorem kX7_isNumber (l : Launch) (D : va_G) (cyC cyI cyO : ClassId) (a1 : Int32) (a2 : Int32) : RO l yX7_isNumber (Ty yX7_isNumber cX7_isNumber 2 (some .boolean)) ({ frames := 2, cells := 0, slots := 0, locals := 42 } : Room) D cyC cyI cyO [] [.int a1, .int a2] (pX7_isNumber a1 a2) := by
  refine Met.ofW (cc := cX7_isNumber) (maxL := 2) (ret := (some .boolean)) (by decide) rfl ?_
  intro p e s m args below meth cd s₁ B hml hv
  obtain ⟨rfl, hP, hK⟩ := hv
  have hx := B.exec
  have hb := B.bytes
  have hr := B.returns
  have hts : ∀ w ∈ TB, w.before ([.int a1, .int a2] : List Value).toArray s = true := fun w h => atoms_spec (ws := (Ty yX7_isNumber cX7_isNumber 2 (some .boolean))) B.pre w (List.mem_cons_of_mem _ h)
  have hown : s.vm.findClass RX7 = some m.cls := findClass_of_methodNamed B.named
  have hlocks := B.notSynchronized
  have hl := lv_entry ([.int a1, .int a2]) (n := 2) (Nat.le_of_ble_eq_true rfl)
  rw [lg_entry_eq]
  generalize (lg_sl ([.int a1, .int a2]) ++ List.replicate (2 - (lg_sl ([.int a1, .int a2])).length) Slot.unset).toArray = ls at hl ⊢
  have hl : lv_has ls 2 [(0, .int a1), (1, .int a2)] := hl
  refine lv_iload_n hx hb dX7_isNumber_0 rfl (lv_at hl 0 rfl) ?_
  refine lv_if_eq (tgt := 11) hx hb dX7_isNumber_1 (by decide) (fun c_1 => ?_) (fun c_1 => ?_)
  · refine lv_iload_n hx hb dX7_isNumber_11 rfl (lv_at hl 1 rfl) ?_
    refine rS (As := [.int a2]) (rest := []) hx hb hml hown hts hl.1 (kX7_isRoof l D cyC cyI cyO a2) bS_X7_isRoof  wml_RX7_121 ⟨rfl, rfl⟩ ⟨Nat.le_of_ble_eq_true rfl, Nat.le_of_ble_eq_true rfl, Nat.zero_le _, Nat.zero_le _⟩ [] rfl hP hK rfl rfl (Nat.le_of_ble_eq_true rfl) dX7_isNumber_12 ?_
    have e9 : (pX7_isRoof a2) = (pX7_isNumber a1 a2) := by simp only [pX7_isNumber, if_pos c_1]
    exact W.zret (ty := .boolean) (v := (pX7_isRoof a2)) hx hb hr (nz (z_X7_isRoof a2)) (fun t ht hW => ⟨_, rfl, e9, ht⟩) (fun _ h => absurd h List.not_mem_nil) dX7_isNumber_15
  · refine lv_iload_n hx hb dX7_isNumber_4 rfl (lv_at hl 1 rfl) ?_
    refine rS (As := [.int a2]) (rest := []) hx hb hml hown hts hl.1 (kX7_isGangway l D cyC cyI cyO a2) bS_X7_isGangway  wml_RX7_29 ⟨rfl, rfl⟩ ⟨Nat.le_of_ble_eq_true rfl, Nat.le_of_ble_eq_true rfl, Nat.zero_le _, Nat.zero_le _⟩ [] rfl hP hK rfl rfl (Nat.le_of_ble_eq_true rfl) dX7_isNumber_5 ?_
    refine lv_goto (tgt := 15) hx hb dX7_isNumber_8 (by decide) ?_
    have e9 : (pX7_isGangway a2) = (pX7_isNumber a1 a2) := by simp only [pX7_isNumber, if_neg c_1]
    exact W.zret (ty := .boolean) (v := (pX7_isGangway a2)) hx hb hr (nz (z_X7_isGangway a2)) (fun t ht hW => ⟨_, rfl, e9, ht⟩) (fun _ h => absurd h List.not_mem_nil) dX7_isNumber_15
theorem z_X7_isNumber (a1 : Int32) (a2 : Int32) : (pX7_isNumber a1 a2) = 0 ∨ (pX7_isNumber a1 a2) = 1 := by
  unfold pX7_isNumber
  (repeat' split) <;> first | with_reducible exact z_X7_isGangway _ | with_reducible exact z_X7_isRoof _ | with_reducible exact Or.inl rfl | with_reducible exact Or.inr rfl
theorem bS_X7_isNumber : BS yX7_isNumber cX7_isNumber 2 (some .boolean) 2 := ⟨wcd_X7_isNumber, wst_X7_isNumber, win_RX7, by decide +kernel⟩
def pX7_of (u : (Nat → Nat → Int32)) (w : (Nat → Int32)) (a1 : Int32) (a2 : Int32) : Int32 := ((u 0) ((((30 : Int32) + ((4 : Int32) * a1)) + a2)).toNatClampNeg)
set_option maxHeartbeats 4000000 in
set_option maxRecDepth 100000 in
theorem kX7_of (l : Launch) (D : va_G) (cyC cyI cyO : ClassId) (A : Nat → Nat) (u : (Nat → Nat → Int32)) (w : (Nat → Int32)) (a1 : Int32) (a2 : Int32) (h1 : vp_in a1 28) (h2 : vp_in a2 4) : RO l yX7_of (Ty yX7_of cX7_of 3 (some .int)) ({ frames := 0, cells := 0, slots := 0, locals := 0 } : Room) D cyC cyI cyO (wM cyI A u w) [.ref (A 0), .int a1, .int a2] (pX7_of u w a1 a2) := by
  refine Met.ofW (cc := cX7_of) (maxL := 3) (ret := (some .int)) (by decide) rfl ?_
  intro p e s m args below meth cd s₁ B hml hv
  obtain ⟨rfl, hP, hK⟩ := hv
  have hx := B.exec
  have hb := B.bytes
  have hr := B.returns
  have hts : ∀ w ∈ TB, w.before ([.ref (A 0), .int a1, .int a2] : List Value).toArray s = true := fun w h => atoms_spec (ws := (Ty yX7_of cX7_of 3 (some .int))) B.pre w (List.mem_cons_of_mem _ h)
  have hown : s.vm.findClass RX7 = some m.cls := findClass_of_methodNamed B.named
  have hlocks := B.notSynchronized
  have hl := lv_entry ([.ref (A 0), .int a1, .int a2]) (n := 3) (Nat.le_of_ble_eq_true rfl)
  rw [lg_entry_eq]
  generalize (lg_sl ([.ref (A 0), .int a1, .int a2]) ++ List.replicate (3 - (lg_sl ([.ref (A 0), .int a1, .int a2])).length) Slot.unset).toArray = ls at hl ⊢
  have hl : lv_has ls 3 [(0, .ref (A 0)), (1, .int a1), (2, .int a2)] := hl
  refine lv_aload_n hx hb dX7_of_0 rfl (lv_at hl 0 rfl) ?_
  refine va_get (D := D) (ci := 6) (v := .ref (A 1)) (C := RX7) (T := TX7) (N := 15) hx hb hts inT_X7 hown hK.1 hP 0 rfl rfl 0 (by decide) (hts _ wfl_RX7_7) (fun _ h9 => h9) rfl dX7_of_1 ?_
  refine lv_bipush (v := 30) hx hb dX7_of_4 (by decide) ?_
  refine lv_iconst (v := 4) hx hb dX7_of_6 (by decide) ?_
  refine lv_iload_n hx hb dX7_of_7 rfl (lv_at hl 1 rfl) ?_
  refine lv_imul hx hb dX7_of_8 ?_
  refine lv_iadd hx hb dX7_of_9 ?_
  refine lv_iload_n hx hb dX7_of_10 rfl (lv_at hl 2 rfl) ?_
  refine lv_iadd hx hb dX7_of_11 ?_
  refine va_iald (D := D) (f := (u 0)) hx hb hK.1 hP 1 1 rfl rfl (vp_of h1 h2) dX7_of_12 ?_
  have e9 : ((u 0) ((((30 : Int32) + ((4 : Int32) * a1)) + a2)).toNatClampNeg) = (pX7_of u w a1 a2) := rfl
  exact W.iret (v := ((u 0) ((((30 : Int32) + ((4 : Int32) * a1)) + a2)).toNatClampNeg)) hx hb hr (fun t ht hW => ⟨_, rfl, e9, ht⟩) (fun _ h => absurd h List.not_mem_nil) dX7_of_13
theorem bV_X7_of : BV RX7 yX7_of cX7_of 3 (some .int) 2 := ⟨wcd_X7_of, wim_X7_of, wse_X7_of, win_RX7, by decide +kernel⟩
def pX7_ofOwner (u : (Nat → Nat → Int32)) (w : (Nat → Int32)) (a1 : Int32) (a2 : Int32) : Int32 := ((u 0) ((((10 : Int32) + ((5 : Int32) * a1)) + a2)).toNatClampNeg)
set_option maxHeartbeats 4000000 in
set_option maxRecDepth 100000 in
theorem kX7_ofOwner (l : Launch) (D : va_G) (cyC cyI cyO : ClassId) (A : Nat → Nat) (u : (Nat → Nat → Int32)) (w : (Nat → Int32)) (a1 : Int32) (a2 : Int32) (h1 : vp_in a1 4) (h2 : vp_in a2 5) : RO l yX7_ofOwner (Ty yX7_ofOwner cX7_ofOwner 3 (some .int)) ({ frames := 0, cells := 0, slots := 0, locals := 0 } : Room) D cyC cyI cyO (wM cyI A u w) [.ref (A 0), .int a1, .int a2] (pX7_ofOwner u w a1 a2) := by
  refine Met.ofW (cc := cX7_ofOwner) (maxL := 3) (ret := (some .int)) (by decide) rfl ?_
  intro p e s m args below meth cd s₁ B hml hv
  obtain ⟨rfl, hP, hK⟩ := hv
  have hx := B.exec
  have hb := B.bytes
  have hr := B.returns
  have hts : ∀ w ∈ TB, w.before ([.ref (A 0), .int a1, .int a2] : List Value).toArray s = true := fun w h => atoms_spec (ws := (Ty yX7_ofOwner cX7_ofOwner 3 (some .int))) B.pre w (List.mem_cons_of_mem _ h)
  have hown : s.vm.findClass RX7 = some m.cls := findClass_of_methodNamed B.named
  have hlocks := B.notSynchronized
  have hl := lv_entry ([.ref (A 0), .int a1, .int a2]) (n := 3) (Nat.le_of_ble_eq_true rfl)
  rw [lg_entry_eq]
  generalize (lg_sl ([.ref (A 0), .int a1, .int a2]) ++ List.replicate (3 - (lg_sl ([.ref (A 0), .int a1, .int a2])).length) Slot.unset).toArray = ls at hl ⊢
  have hl : lv_has ls 3 [(0, .ref (A 0)), (1, .int a1), (2, .int a2)] := hl
  refine lv_aload_n hx hb dX7_ofOwner_0 rfl (lv_at hl 0 rfl) ?_
  refine va_get (D := D) (ci := 6) (v := .ref (A 1)) (C := RX7) (T := TX7) (N := 15) hx hb hts inT_X7 hown hK.1 hP 0 rfl rfl 0 (by decide) (hts _ wfl_RX7_7) (fun _ h9 => h9) rfl dX7_ofOwner_1 ?_
  refine lv_bipush (v := 10) hx hb dX7_ofOwner_4 (by decide) ?_
  refine lv_iconst (v := 5) hx hb dX7_ofOwner_6 (by decide) ?_
  refine lv_iload_n hx hb dX7_ofOwner_7 rfl (lv_at hl 1 rfl) ?_
  refine lv_imul hx hb dX7_ofOwner_8 ?_
  refine lv_iadd hx hb dX7_ofOwner_9 ?_
  refine lv_iload_n hx hb dX7_ofOwner_10 rfl (lv_at hl 2 rfl) ?_
  refine lv_iadd hx hb dX7_ofOwner_11 ?_
  refine va_iald (D := D) (f := (u 0)) hx hb hK.1 hP 1 1 rfl rfl (vp_ow h1 h2) dX7_ofOwner_12 ?_
  have e9 : ((u 0) ((((10 : Int32) + ((5 : Int32) * a1)) + a2)).toNatClampNeg) = (pX7_ofOwner u w a1 a2) := rfl
  exact W.iret (v := ((u 0) ((((10 : Int32) + ((5 : Int32) * a1)) + a2)).toNatClampNeg)) hx hb hr (fun t ht hW => ⟨_, rfl, e9, ht⟩) (fun _ h => absurd h List.not_mem_nil) dX7_ofOwner_13
theorem bV_X7_ofOwner : BV RX7 yX7_ofOwner cX7_ofOwner 3 (some .int) 2 := ⟨wcd_X7_ofOwner, wim_X7_ofOwner, wse_X7_ofOwner, win_RX7, by decide +kernel⟩
def pX7_hasLine (u : (Nat → Nat → Int32)) (w : (Nat → Int32)) (a1 : Int32) : Int32 := (if (pX7_of u w a1 1) ≤ 0 then 0 else 1)
set_option maxHeartbeats 4000000 in
set_option maxRecDepth 100000 in
theorem kX7_hasLine (l : Launch) (D : va_G) (cyC cyI cyO : ClassId) (A : Nat → Nat) (u : (Nat → Nat → Int32)) (w : (Nat → Int32)) (a1 : Int32) (h1 : vp_in a1 28) : RO l yX7_hasLine (Ty yX7_hasLine cX7_hasLine 2 (some .boolean)) ({ frames := 1, cells := 0, slots := 0, locals := 22 } : Room) D cyC cyI cyO (wM cyI A u w) [.ref (A 0), .int a1] (pX7_hasLine u w a1) := by
  refine Met.ofW (cc := cX7_hasLine) (maxL := 2) (ret := (some .boolean)) (by decide) rfl ?_
  intro p e s m args below meth cd s₁ B hml hv
  obtain ⟨rfl, hP, hK⟩ := hv
  have hx := B.exec
  have hb := B.bytes
  have hr := B.returns
  have hts : ∀ w ∈ TB, w.before ([.ref (A 0), .int a1] : List Value).toArray s = true := fun w h => atoms_spec (ws := (Ty yX7_hasLine cX7_hasLine 2 (some .boolean))) B.pre w (List.mem_cons_of_mem _ h)
  have hown : s.vm.findClass RX7 = some m.cls := findClass_of_methodNamed B.named
  have hlocks := B.notSynchronized
  have hl := lv_entry ([.ref (A 0), .int a1]) (n := 2) (Nat.le_of_ble_eq_true rfl)
  rw [lg_entry_eq]
  generalize (lg_sl ([.ref (A 0), .int a1]) ++ List.replicate (2 - (lg_sl ([.ref (A 0), .int a1])).length) Slot.unset).toArray = ls at hl ⊢
  have hl : lv_has ls 2 [(0, .ref (A 0)), (1, .int a1)] := hl
  refine lv_aload_n hx hb dX7_hasLine_0 rfl (lv_at hl 0 rfl) ?_
  refine lv_iload_n hx hb dX7_hasLine_1 rfl (lv_at hl 1 rfl) ?_
  refine lv_iconst (v := 1) hx hb dX7_hasLine_2 (by decide) ?_
  refine rV (As := [.int a1, .int 1]) (rest := []) hx hb hml hown hts hl.1 (kX7_of l D cyC cyI cyO A u w a1 1 h1 (vp_lit (by decide))) bV_X7_of  wml_RX7_52 ⟨rfl, rfl⟩ ⟨Nat.le_of_ble_eq_true rfl, Nat.le_of_ble_eq_true rfl, Nat.zero_le _, Nat.zero_le _⟩ [0, 1, 2, 3, 4, 5, 6] rfl hP hK 0 rfl rfl rfl rfl rfl (Nat.le_of_ble_eq_true rfl) dX7_hasLine_3 ?_
  refine lv_if_le (tgt := 13) hx hb dX7_hasLine_6 (by decide) (fun c_1 => ?_) (fun c_1 => ?_)
  · refine lv_iconst (v := 0) hx hb dX7_hasLine_13 (by decide) ?_
    have e9 : 0 = (pX7_hasLine u w a1) := by simp only [pX7_hasLine, if_pos c_1]
    exact W.zret (ty := .boolean) (v := 0) hx hb hr (by rfl) (fun t ht hW => ⟨_, rfl, e9, ht⟩) (fun _ h => absurd h List.not_mem_nil) dX7_hasLine_14
  · refine lv_iconst (v := 1) hx hb dX7_hasLine_9 (by decide) ?_
    refine lv_goto (tgt := 14) hx hb dX7_hasLine_10 (by decide) ?_
    have e9 : 1 = (pX7_hasLine u w a1) := by simp only [pX7_hasLine, if_neg c_1]
    exact W.zret (ty := .boolean) (v := 1) hx hb hr (by rfl) (fun t ht hW => ⟨_, rfl, e9, ht⟩) (fun _ h => absurd h List.not_mem_nil) dX7_hasLine_14
theorem z_X7_hasLine (u : (Nat → Nat → Int32)) (w : (Nat → Int32)) (a1 : Int32) : (pX7_hasLine u w a1) = 0 ∨ (pX7_hasLine u w a1) = 1 := by
  unfold pX7_hasLine
  (repeat' split) <;> first | with_reducible exact Or.inl rfl | with_reducible exact Or.inr rfl
theorem bV_X7_hasLine : BV RX7 yX7_hasLine cX7_hasLine 2 (some .boolean) 1 := ⟨wcd_X7_hasLine, wim_X7_hasLine, wse_X7_hasLine, win_RX7, by decide +kernel⟩
def pX7_isClean (u : (Nat → Nat → Int32)) (w : (Nat → Int32)) (a1 : Int32) : Int32 := (if (pX7_hasLine u w a1) = 0 then 0 else (if ((pX7_of u w a1 2) + (pX7_of u w a1 3)) = 0 then 1 else 0))
set_option maxHeartbeats 4000000 in
set_option maxRecDepth 100000 in
theorem kX7_isClean (l : Launch) (D : va_G) (cyC cyI cyO : ClassId) (A : Nat → Nat) (u : (Nat → Nat → Int32)) (w : (Nat → Int32)) (a1 : Int32) (h1 : vp_in a1 28) : RO l yX7_isClean (Ty yX7_isClean cX7_isClean 2 (some .boolean)) ({ frames := 2, cells := 0, slots := 0, locals := 43 } : Room) D cyC cyI cyO (wM cyI A u w) [.ref (A 0), .int a1] (pX7_isClean u w a1) := by
  refine Met.ofW (cc := cX7_isClean) (maxL := 2) (ret := (some .boolean)) (by decide) rfl ?_
  intro p e s m args below meth cd s₁ B hml hv
  obtain ⟨rfl, hP, hK⟩ := hv
  have hx := B.exec
  have hb := B.bytes
  have hr := B.returns
  have hts : ∀ w ∈ TB, w.before ([.ref (A 0), .int a1] : List Value).toArray s = true := fun w h => atoms_spec (ws := (Ty yX7_isClean cX7_isClean 2 (some .boolean))) B.pre w (List.mem_cons_of_mem _ h)
  have hown : s.vm.findClass RX7 = some m.cls := findClass_of_methodNamed B.named
  have hlocks := B.notSynchronized
  have hl := lv_entry ([.ref (A 0), .int a1]) (n := 2) (Nat.le_of_ble_eq_true rfl)
  rw [lg_entry_eq]
  generalize (lg_sl ([.ref (A 0), .int a1]) ++ List.replicate (2 - (lg_sl ([.ref (A 0), .int a1])).length) Slot.unset).toArray = ls at hl ⊢
  have hl : lv_has ls 2 [(0, .ref (A 0)), (1, .int a1)] := hl
  refine lv_aload_n hx hb dX7_isClean_0 rfl (lv_at hl 0 rfl) ?_
  refine lv_iload_n hx hb dX7_isClean_1 rfl (lv_at hl 1 rfl) ?_
  refine rV (As := [.int a1]) (rest := []) hx hb hml hown hts hl.1 (kX7_hasLine l D cyC cyI cyO A u w a1 h1) bV_X7_hasLine  wml_RX7_56 ⟨rfl, rfl⟩ ⟨Nat.le_of_ble_eq_true rfl, Nat.le_of_ble_eq_true rfl, Nat.zero_le _, Nat.zero_le _⟩ [0, 1, 2, 3, 4, 5, 6] rfl hP hK 0 rfl rfl rfl rfl rfl (Nat.le_of_ble_eq_true rfl) dX7_isClean_2 ?_
  refine lv_if_eq (tgt := 28) hx hb dX7_isClean_5 (by decide) (fun c_1 => ?_) (fun c_1 => ?_)
  · refine lv_iconst (v := 0) hx hb dX7_isClean_28 (by decide) ?_
    have e9 : 0 = (pX7_isClean u w a1) := by simp only [pX7_isClean, if_pos c_1]
    exact W.zret (ty := .boolean) (v := 0) hx hb hr (by rfl) (fun t ht hW => ⟨_, rfl, e9, ht⟩) (fun _ h => absurd h List.not_mem_nil) dX7_isClean_29
  · refine lv_aload_n hx hb dX7_isClean_8 rfl (lv_at hl 0 rfl) ?_
    refine lv_iload_n hx hb dX7_isClean_9 rfl (lv_at hl 1 rfl) ?_
    refine lv_iconst (v := 2) hx hb dX7_isClean_10 (by decide) ?_
    refine rV (As := [.int a1, .int 2]) (rest := []) hx hb hml hown hts hl.1 (kX7_of l D cyC cyI cyO A u w a1 2 h1 (vp_lit (by decide))) bV_X7_of  wml_RX7_52 ⟨rfl, rfl⟩ ⟨Nat.le_of_ble_eq_true rfl, Nat.le_of_ble_eq_true rfl, Nat.zero_le _, Nat.zero_le _⟩ [0, 1, 2, 3, 4, 5, 6] rfl hP hK 0 rfl rfl rfl rfl rfl (Nat.le_of_ble_eq_true rfl) dX7_isClean_11 ?_
    refine lv_aload_n hx hb dX7_isClean_14 rfl (lv_at hl 0 rfl) ?_
    refine lv_iload_n hx hb dX7_isClean_15 rfl (lv_at hl 1 rfl) ?_
    refine lv_iconst (v := 3) hx hb dX7_isClean_16 (by decide) ?_
    refine rV (As := [.int a1, .int 3]) (rest := [.int (pX7_of u w a1 2)]) hx hb hml hown hts hl.1 (kX7_of l D cyC cyI cyO A u w a1 3 h1 (vp_lit (by decide))) bV_X7_of  wml_RX7_52 ⟨rfl, rfl⟩ ⟨Nat.le_of_ble_eq_true rfl, Nat.le_of_ble_eq_true rfl, Nat.zero_le _, Nat.zero_le _⟩ [0, 1, 2, 3, 4, 5, 6] rfl hP hK 0 rfl rfl rfl rfl rfl (Nat.le_of_ble_eq_true rfl) dX7_isClean_17 ?_
    refine lv_iadd hx hb dX7_isClean_20 ?_
    refine lv_if_ne (tgt := 28) hx hb dX7_isClean_21 (by decide) (fun c_2 => ?_) (fun c_2 => ?_)
    · refine lv_iconst (v := 0) hx hb dX7_isClean_28 (by decide) ?_
      have e9 : 0 = (pX7_isClean u w a1) := by simp only [pX7_isClean, if_neg c_1, if_neg c_2]
      exact W.zret (ty := .boolean) (v := 0) hx hb hr (by rfl) (fun t ht hW => ⟨_, rfl, e9, ht⟩) (fun _ h => absurd h List.not_mem_nil) dX7_isClean_29
    · refine lv_iconst (v := 1) hx hb dX7_isClean_24 (by decide) ?_
      refine lv_goto (tgt := 29) hx hb dX7_isClean_25 (by decide) ?_
      have e9 : 1 = (pX7_isClean u w a1) := by simp only [pX7_isClean, if_neg c_1, if_pos c_2]
      exact W.zret (ty := .boolean) (v := 1) hx hb hr (by rfl) (fun t ht hW => ⟨_, rfl, e9, ht⟩) (fun _ h => absurd h List.not_mem_nil) dX7_isClean_29
theorem z_X7_isClean (u : (Nat → Nat → Int32)) (w : (Nat → Int32)) (a1 : Int32) : (pX7_isClean u w a1) = 0 ∨ (pX7_isClean u w a1) = 1 := by
  unfold pX7_isClean
  (repeat' split) <;> first | with_reducible exact Or.inl rfl | with_reducible exact Or.inr rfl
theorem bV_X7_isClean : BV RX7 yX7_isClean cX7_isClean 2 (some .boolean) 1 := ⟨wcd_X7_isClean, wim_X7_isClean, wse_X7_isClean, win_RX7, by decide +kernel⟩
def pX7_bothOf (u : (Nat → Nat → Int32)) (w : (Nat → Int32)) (a1 : Int32) : Int32 := (((1 : Int32) <<< ((pX7_lesserOf a1) &&& 31)) ||| ((1 : Int32) <<< ((pX7_greaterOf a1) &&& 31)))
set_option maxHeartbeats 4000000 in
set_option maxRecDepth 100000 in
theorem kX7_bothOf (l : Launch) (D : va_G) (cyC cyI cyO : ClassId) (A : Nat → Nat) (u : (Nat → Nat → Int32)) (w : (Nat → Int32)) (a1 : Int32) : RO l yX7_bothOf (Ty yX7_bothOf cX7_bothOf 2 (some .int)) ({ frames := 1, cells := 0, slots := 0, locals := 20 } : Room) D cyC cyI cyO (wM cyI A u w) [.ref (A 0), .int a1] (pX7_bothOf u w a1) := by
  refine Met.ofW (cc := cX7_bothOf) (maxL := 2) (ret := (some .int)) (by decide) rfl ?_
  intro p e s m args below meth cd s₁ B hml hv
  obtain ⟨rfl, hP, hK⟩ := hv
  have hx := B.exec
  have hb := B.bytes
  have hr := B.returns
  have hts : ∀ w ∈ TB, w.before ([.ref (A 0), .int a1] : List Value).toArray s = true := fun w h => atoms_spec (ws := (Ty yX7_bothOf cX7_bothOf 2 (some .int))) B.pre w (List.mem_cons_of_mem _ h)
  have hown : s.vm.findClass RX7 = some m.cls := findClass_of_methodNamed B.named
  have hlocks := B.notSynchronized
  have hl := lv_entry ([.ref (A 0), .int a1]) (n := 2) (Nat.le_of_ble_eq_true rfl)
  rw [lg_entry_eq]
  generalize (lg_sl ([.ref (A 0), .int a1]) ++ List.replicate (2 - (lg_sl ([.ref (A 0), .int a1])).length) Slot.unset).toArray = ls at hl ⊢
  have hl : lv_has ls 2 [(0, .ref (A 0)), (1, .int a1)] := hl
  refine lv_iconst (v := 1) hx hb dX7_bothOf_0 (by decide) ?_
  refine lv_iload_n hx hb dX7_bothOf_1 rfl (lv_at hl 1 rfl) ?_
  refine rS (As := [.int a1]) (rest := [.int 1]) hx hb hml hown hts hl.1 (kX7_lesserOf l D cyC cyI cyO a1) bS_X7_lesserOf  wml_RX7_45 ⟨rfl, rfl⟩ ⟨Nat.le_of_ble_eq_true rfl, Nat.le_of_ble_eq_true rfl, Nat.zero_le _, Nat.zero_le _⟩ [] rfl hP hK rfl rfl (Nat.le_of_ble_eq_true rfl) dX7_bothOf_2 ?_
  refine lv_ishl hx hb dX7_bothOf_5 ?_
  refine lv_iconst (v := 1) hx hb dX7_bothOf_6 (by decide) ?_
  refine lv_iload_n hx hb dX7_bothOf_7 rfl (lv_at hl 1 rfl) ?_
  refine rS (As := [.int a1]) (rest := [.int 1, .int ((1 : Int32) <<< ((pX7_lesserOf a1) &&& 31))]) hx hb hml hown hts hl.1 (kX7_greaterOf l D cyC cyI cyO a1) bS_X7_greaterOf  wml_RX7_49 ⟨rfl, rfl⟩ ⟨Nat.le_of_ble_eq_true rfl, Nat.le_of_ble_eq_true rfl, Nat.zero_le _, Nat.zero_le _⟩ [] rfl hP hK rfl rfl (Nat.le_of_ble_eq_true rfl) dX7_bothOf_8 ?_
  refine lv_ishl hx hb dX7_bothOf_11 ?_
  refine lv_ior hx hb dX7_bothOf_12 ?_
  have e9 : (((1 : Int32) <<< ((pX7_lesserOf a1) &&& 31)) ||| ((1 : Int32) <<< ((pX7_greaterOf a1) &&& 31))) = (pX7_bothOf u w a1) := rfl
  exact W.iret (v := (((1 : Int32) <<< ((pX7_lesserOf a1) &&& 31)) ||| ((1 : Int32) <<< ((pX7_greaterOf a1) &&& 31)))) hx hb hr (fun t ht hW => ⟨_, rfl, e9, ht⟩) (fun _ h => absurd h List.not_mem_nil) dX7_bothOf_13
theorem bV_X7_bothOf : BV RX7 yX7_bothOf cX7_bothOf 2 (some .int) 1 := ⟨wcd_X7_bothOf, wim_X7_bothOf, wse_X7_bothOf, win_RX7, by decide +kernel⟩
def pX7_smokeOf (u : (Nat → Nat → Int32)) (w : (Nat → Int32)) (a1 : Int32) (a2 : Int32) : Int32 := (if ((u 0) 2) ≤ 0 then ((1 : Int32) <<< (a1 &&& 31)) else (if a1 < 0 then ((1 : Int32) <<< (a1 &&& 31)) else (if 0 ≤ (pX7_nextTo a1 a2) then (if ((u 0) 2) ≤ 1 then (((1 : Int32) <<< (a1 &&& 31)) ||| ((1 : Int32) <<< ((pX7_nextTo a1 a2) &&& 31))) else (if 0 ≤ (pX7_nextTo (pX7_nextTo a1 a2) a2) then (if ((u 0) 2) ≤ 2 then ((((1 : Int32) <<< (a1 &&& 31)) ||| ((1 : Int32) <<< ((pX7_nextTo a1 a2) &&& 31))) ||| ((1 : Int32) <<< ((pX7_nextTo (pX7_nextTo a1 a2) a2) &&& 31))) else (if 0 ≤ (pX7_nextTo (pX7_nextTo (pX7_nextTo a1 a2) a2) a2) then (((((1 : Int32) <<< (a1 &&& 31)) ||| ((1 : Int32) <<< ((pX7_nextTo a1 a2) &&& 31))) ||| ((1 : Int32) <<< ((pX7_nextTo (pX7_nextTo a1 a2) a2) &&& 31))) ||| ((1 : Int32) <<< ((pX7_nextTo (pX7_nextTo (pX7_nextTo a1 a2) a2) a2) &&& 31))) else (((((1 : Int32) <<< (a1 &&& 31)) ||| ((1 : Int32) <<< ((pX7_nextTo a1 a2) &&& 31))) ||| ((1 : Int32) <<< ((pX7_nextTo (pX7_nextTo a1 a2) a2) &&& 31))) ||| (0 : Int32)))) else (if ((u 0) 2) ≤ 2 then ((((1 : Int32) <<< (a1 &&& 31)) ||| ((1 : Int32) <<< ((pX7_nextTo a1 a2) &&& 31))) ||| (0 : Int32)) else ((((1 : Int32) <<< (a1 &&& 31)) ||| ((1 : Int32) <<< ((pX7_nextTo a1 a2) &&& 31))) ||| (0 : Int32))))) else (if ((u 0) 2) ≤ 1 then (((1 : Int32) <<< (a1 &&& 31)) ||| (0 : Int32)) else (((1 : Int32) <<< (a1 &&& 31)) ||| (0 : Int32))))))
set_option maxHeartbeats 4000000 in
set_option maxRecDepth 100000 in
theorem kX7_smokeOf (l : Launch) (D : va_G) (cyC cyI cyO : ClassId) (A : Nat → Nat) (u : (Nat → Nat → Int32)) (w : (Nat → Int32)) (a1 : Int32) (a2 : Int32) (hm3 : ((u 0) 2) ≤ 3) : RO l yX7_smokeOf (Ty yX7_smokeOf cX7_smokeOf 6 (some .int)) ({ frames := 1, cells := 0, slots := 0, locals := 23 } : Room) D cyC cyI cyO (wM cyI A u w) [.ref (A 0), .int a1, .int a2] (pX7_smokeOf u w a1 a2) := by
  refine Met.ofW (cc := cX7_smokeOf) (maxL := 6) (ret := (some .int)) (by decide) rfl ?_
  intro p e s m args below meth cd s₁ B hml hv
  obtain ⟨rfl, hP, hK⟩ := hv
  have hx := B.exec
  have hb := B.bytes
  have hr := B.returns
  have hts : ∀ w ∈ TB, w.before ([.ref (A 0), .int a1, .int a2] : List Value).toArray s = true := fun w h => atoms_spec (ws := (Ty yX7_smokeOf cX7_smokeOf 6 (some .int))) B.pre w (List.mem_cons_of_mem _ h)
  have hown : s.vm.findClass RX7 = some m.cls := findClass_of_methodNamed B.named
  have hlocks := B.notSynchronized
  have hl := lv_entry ([.ref (A 0), .int a1, .int a2]) (n := 6) (Nat.le_of_ble_eq_true rfl)
  rw [lg_entry_eq]
  generalize (lg_sl ([.ref (A 0), .int a1, .int a2]) ++ List.replicate (6 - (lg_sl ([.ref (A 0), .int a1, .int a2])).length) Slot.unset).toArray = ls at hl ⊢
  have hl : lv_has ls 6 [(0, .ref (A 0)), (1, .int a1), (2, .int a2)] := hl
  refine lv_iconst (v := 1) hx hb dX7_smokeOf_0 (by decide) ?_
  refine lv_iload_n hx hb dX7_smokeOf_1 rfl (lv_at hl 1 rfl) ?_
  refine lv_ishl hx hb dX7_smokeOf_2 ?_
  refine lv_istore_n (lv' := [(3, .int ((1 : Int32) <<< (a1 &&& 31))), (0, .ref (A 0)), (1, .int a1), (2, .int a2)]) hx hb dX7_smokeOf_3 rfl hl (by decide) rfl (fun ls hl => ?_)
  refine lv_iload_n hx hb dX7_smokeOf_4 rfl (lv_at hl 2 rfl) ?_
  refine lv_istore (lv' := [(4, .int a1), (3, .int ((1 : Int32) <<< (a1 &&& 31))), (0, .ref (A 0)), (1, .int a1), (2, .int a2)]) hx hb dX7_smokeOf_5 hl (by decide) rfl (fun ls hl => ?_)
  refine lv_iconst (v := 0) hx hb dX7_smokeOf_7 (by decide) ?_
  refine lv_istore (lv' := [(5, .int 0), (4, .int a1), (3, .int ((1 : Int32) <<< (a1 &&& 31))), (0, .ref (A 0)), (1, .int a1), (2, .int a2)]) hx hb dX7_smokeOf_8 hl (by decide) rfl (fun ls hl => ?_)
  refine lv_iload hx hb dX7_smokeOf_10 (lv_at hl 0 rfl) ?_
  refine lv_aload_n hx hb dX7_smokeOf_12 rfl (lv_at hl 3 rfl) ?_
  refine va_get (D := D) (ci := 6) (v := .ref (A 1)) (C := RX7) (T := TX7) (N := 15) hx hb hts inT_X7 hown hK.1 hP 0 rfl rfl 0 (by decide) (hts _ wfl_RX7_7) (fun _ h9 => h9) rfl dX7_smokeOf_13 ?_
  refine lv_iconst (v := 2) hx hb dX7_smokeOf_16 (by decide) ?_
  refine va_iald (D := D) (f := (u 0)) hx hb hK.1 hP 1 1 rfl rfl (vp_lit (by decide)) dX7_smokeOf_17 ?_
  refine W.eq (g2 := F0 m _ ls [.int ((u 0) 2), .int 0]) rfl ?_
  refine lv_icmp_ge (tgt := 56) hx hb dX7_smokeOf_18 (by decide) (fun c_1 => ?_) (fun c_1 => ?_)
  · refine lv_iload_n hx hb dX7_smokeOf_56 rfl (lv_at hl 2 rfl) ?_
    have e9 : ((1 : Int32) <<< (a1 &&& 31)) = (pX7_smokeOf u w a1 a2) := by simp only [pX7_smokeOf, if_pos c_1]
    exact W.iret (v := ((1 : Int32) <<< (a1 &&& 31))) hx hb hr (fun t ht hW => ⟨_, rfl, e9, ht⟩) (fun _ h => absurd h List.not_mem_nil) dX7_smokeOf_57
  · refine lv_iload hx hb dX7_smokeOf_21 (lv_at hl 1 rfl) ?_
    refine lv_if_lt (tgt := 56) hx hb dX7_smokeOf_23 (by decide) (fun c_2 => ?_) (fun c_2 => ?_)
    · refine lv_iload_n hx hb dX7_smokeOf_56 rfl (lv_at hl 2 rfl) ?_
      have e9 : ((1 : Int32) <<< (a1 &&& 31)) = (pX7_smokeOf u w a1 a2) := by simp only [pX7_smokeOf, if_neg c_1, if_pos c_2]
      exact W.iret (v := ((1 : Int32) <<< (a1 &&& 31))) hx hb hr (fun t ht hW => ⟨_, rfl, e9, ht⟩) (fun _ h => absurd h List.not_mem_nil) dX7_smokeOf_57
    · refine lv_iload hx hb dX7_smokeOf_26 (lv_at hl 1 rfl) ?_
      refine lv_iload_n hx hb dX7_smokeOf_28 rfl (lv_at hl 5 rfl) ?_
      refine rS (As := [.int a1, .int a2]) (rest := []) hx hb hml hown hts hl.1 (kX7_nextTo l D cyC cyI cyO a1 a2) bS_X7_nextTo  wml_RX7_59 ⟨rfl, rfl⟩ ⟨Nat.le_of_ble_eq_true rfl, Nat.le_of_ble_eq_true rfl, Nat.zero_le _, Nat.zero_le _⟩ [] rfl hP hK rfl rfl (Nat.le_of_ble_eq_true rfl) dX7_smokeOf_29 ?_
      refine lv_istore (lv' := [(4, .int (pX7_nextTo a1 a2)), (5, .int 0), (3, .int ((1 : Int32) <<< (a1 &&& 31))), (0, .ref (A 0)), (1, .int a1), (2, .int a2)]) hx hb dX7_smokeOf_32 hl (by decide) rfl (fun ls hl => ?_)
      refine lv_iload_n hx hb dX7_smokeOf_34 rfl (lv_at hl 2 rfl) ?_
      refine lv_iload hx hb dX7_smokeOf_35 (lv_at hl 0 rfl) ?_
      refine lv_if_ge (tgt := 44) hx hb dX7_smokeOf_37 (by decide) (fun c_3 => ?_) (fun c_3 => ?_)
      · refine lv_iconst (v := 1) hx hb dX7_smokeOf_44 (by decide) ?_
        refine lv_iload hx hb dX7_smokeOf_45 (lv_at hl 0 rfl) ?_
        refine lv_ishl hx hb dX7_smokeOf_47 ?_
        refine lv_ior hx hb dX7_smokeOf_48 ?_
        refine lv_istore_n (lv' := [(3, .int (((1 : Int32) <<< (a1 &&& 31)) ||| ((1 : Int32) <<< ((pX7_nextTo a1 a2) &&& 31)))), (4, .int (pX7_nextTo a1 a2)), (5, .int 0), (0, .ref (A 0)), (1, .int a1), (2, .int a2)]) hx hb dX7_smokeOf_49 rfl hl (by decide) rfl (fun ls hl => ?_)
        refine lv_iinc (v := 1) (lv' := [(5, .int 1), (3, .int (((1 : Int32) <<< (a1 &&& 31)) ||| ((1 : Int32) <<< ((pX7_nextTo a1 a2) &&& 31)))), (4, .int (pX7_nextTo a1 a2)), (0, .ref (A 0)), (1, .int a1), (2, .int a2)]) hx hb dX7_smokeOf_50 hl (k := 2) rfl (by decide) (by decide) rfl (fun ls hl => ?_)
        refine lv_goto (tgt := 10) hx hb dX7_smokeOf_53 (by decide) ?_
        refine lv_iload hx hb dX7_smokeOf_10 (lv_at hl 0 rfl) ?_
        refine lv_aload_n hx hb dX7_smokeOf_12 rfl (lv_at hl 3 rfl) ?_
        refine va_get (D := D) (ci := 6) (v := .ref (A 1)) (C := RX7) (T := TX7) (N := 15) hx hb hts inT_X7 hown hK.1 hP 0 rfl rfl 0 (by decide) (hts _ wfl_RX7_7) (fun _ h9 => h9) rfl dX7_smokeOf_13 ?_
        refine lv_iconst (v := 2) hx hb dX7_smokeOf_16 (by decide) ?_
        refine va_iald (D := D) (f := (u 0)) hx hb hK.1 hP 1 1 rfl rfl (vp_lit (by decide)) dX7_smokeOf_17 ?_
        refine W.eq (g2 := F0 m _ ls [.int ((u 0) 2), .int 1]) rfl ?_
        refine lv_icmp_ge (tgt := 56) hx hb dX7_smokeOf_18 (by decide) (fun c_4 => ?_) (fun c_4 => ?_)
        · refine lv_iload_n hx hb dX7_smokeOf_56 rfl (lv_at hl 1 rfl) ?_
          have e9 : (((1 : Int32) <<< (a1 &&& 31)) ||| ((1 : Int32) <<< ((pX7_nextTo a1 a2) &&& 31))) = (pX7_smokeOf u w a1 a2) := by simp only [pX7_smokeOf, if_neg c_1, if_neg c_2, if_pos c_3, if_pos c_4]
          exact W.iret (v := (((1 : Int32) <<< (a1 &&& 31)) ||| ((1 : Int32) <<< ((pX7_nextTo a1 a2) &&& 31)))) hx hb hr (fun t ht hW => ⟨_, rfl, e9, ht⟩) (fun _ h => absurd h List.not_mem_nil) dX7_smokeOf_57
        · refine lv_iload hx hb dX7_smokeOf_21 (lv_at hl 2 rfl) ?_
          refine lv_if_lt (tgt := 56) hx hb dX7_smokeOf_23 (by decide) (fun c_5 => absurd c_5 (Int32.not_lt.mpr c_3)) (fun c_5 => ?_)
          refine lv_iload hx hb dX7_smokeOf_26 (lv_at hl 2 rfl) ?_
          refine lv_iload_n hx hb dX7_smokeOf_28 rfl (lv_at hl 5 rfl) ?_
          refine rS (As := [.int (pX7_nextTo a1 a2), .int a2]) (rest := []) hx hb hml hown hts hl.1 (kX7_nextTo l D cyC cyI cyO (pX7_nextTo a1 a2) a2) bS_X7_nextTo  wml_RX7_59 ⟨rfl, rfl⟩ ⟨Nat.le_of_ble_eq_true rfl, Nat.le_of_ble_eq_true rfl, Nat.zero_le _, Nat.zero_le _⟩ [] rfl hP hK rfl rfl (Nat.le_of_ble_eq_true rfl) dX7_smokeOf_29 ?_
          refine lv_istore (lv' := [(4, .int (pX7_nextTo (pX7_nextTo a1 a2) a2)), (5, .int 1), (3, .int (((1 : Int32) <<< (a1 &&& 31)) ||| ((1 : Int32) <<< ((pX7_nextTo a1 a2) &&& 31)))), (0, .ref (A 0)), (1, .int a1), (2, .int a2)]) hx hb dX7_smokeOf_32 hl (by decide) rfl (fun ls hl => ?_)
          refine lv_iload_n hx hb dX7_smokeOf_34 rfl (lv_at hl 2 rfl) ?_
          refine lv_iload hx hb dX7_smokeOf_35 (lv_at hl 0 rfl) ?_
          refine lv_if_ge (tgt := 44) hx hb dX7_smokeOf_37 (by decide) (fun c_6 => ?_) (fun c_6 => ?_)
          · refine lv_iconst (v := 1) hx hb dX7_smokeOf_44 (by decide) ?_
            refine lv_iload hx hb dX7_smokeOf_45 (lv_at hl 0 rfl) ?_
            refine lv_ishl hx hb dX7_smokeOf_47 ?_
            refine lv_ior hx hb dX7_smokeOf_48 ?_
            refine lv_istore_n (lv' := [(3, .int ((((1 : Int32) <<< (a1 &&& 31)) ||| ((1 : Int32) <<< ((pX7_nextTo a1 a2) &&& 31))) ||| ((1 : Int32) <<< ((pX7_nextTo (pX7_nextTo a1 a2) a2) &&& 31)))), (4, .int (pX7_nextTo (pX7_nextTo a1 a2) a2)), (5, .int 1), (0, .ref (A 0)), (1, .int a1), (2, .int a2)]) hx hb dX7_smokeOf_49 rfl hl (by decide) rfl (fun ls hl => ?_)
            refine lv_iinc (v := 2) (lv' := [(5, .int 2), (3, .int ((((1 : Int32) <<< (a1 &&& 31)) ||| ((1 : Int32) <<< ((pX7_nextTo a1 a2) &&& 31))) ||| ((1 : Int32) <<< ((pX7_nextTo (pX7_nextTo a1 a2) a2) &&& 31)))), (4, .int (pX7_nextTo (pX7_nextTo a1 a2) a2)), (0, .ref (A 0)), (1, .int a1), (2, .int a2)]) hx hb dX7_smokeOf_50 hl (k := 2) rfl (by decide) (by decide) rfl (fun ls hl => ?_)
            refine lv_goto (tgt := 10) hx hb dX7_smokeOf_53 (by decide) ?_
            refine lv_iload hx hb dX7_smokeOf_10 (lv_at hl 0 rfl) ?_
            refine lv_aload_n hx hb dX7_smokeOf_12 rfl (lv_at hl 3 rfl) ?_
            refine va_get (D := D) (ci := 6) (v := .ref (A 1)) (C := RX7) (T := TX7) (N := 15) hx hb hts inT_X7 hown hK.1 hP 0 rfl rfl 0 (by decide) (hts _ wfl_RX7_7) (fun _ h9 => h9) rfl dX7_smokeOf_13 ?_
            refine lv_iconst (v := 2) hx hb dX7_smokeOf_16 (by decide) ?_
            refine va_iald (D := D) (f := (u 0)) hx hb hK.1 hP 1 1 rfl rfl (vp_lit (by decide)) dX7_smokeOf_17 ?_
            refine W.eq (g2 := F0 m _ ls [.int ((u 0) 2), .int 2]) rfl ?_
            refine lv_icmp_ge (tgt := 56) hx hb dX7_smokeOf_18 (by decide) (fun c_7 => ?_) (fun c_7 => ?_)
            · refine lv_iload_n hx hb dX7_smokeOf_56 rfl (lv_at hl 1 rfl) ?_
              have e9 : ((((1 : Int32) <<< (a1 &&& 31)) ||| ((1 : Int32) <<< ((pX7_nextTo a1 a2) &&& 31))) ||| ((1 : Int32) <<< ((pX7_nextTo (pX7_nextTo a1 a2) a2) &&& 31))) = (pX7_smokeOf u w a1 a2) := by simp only [pX7_smokeOf, if_neg c_1, if_neg c_2, if_pos c_3, if_neg c_4, if_pos c_6, if_pos c_7]
              exact W.iret (v := ((((1 : Int32) <<< (a1 &&& 31)) ||| ((1 : Int32) <<< ((pX7_nextTo a1 a2) &&& 31))) ||| ((1 : Int32) <<< ((pX7_nextTo (pX7_nextTo a1 a2) a2) &&& 31)))) hx hb hr (fun t ht hW => ⟨_, rfl, e9, ht⟩) (fun _ h => absurd h List.not_mem_nil) dX7_smokeOf_57
            · refine lv_iload hx hb dX7_smokeOf_21 (lv_at hl 2 rfl) ?_
              refine lv_if_lt (tgt := 56) hx hb dX7_smokeOf_23 (by decide) (fun c_8 => absurd c_8 (Int32.not_lt.mpr c_6)) (fun c_8 => ?_)
              refine lv_iload hx hb dX7_smokeOf_26 (lv_at hl 2 rfl) ?_
              refine lv_iload_n hx hb dX7_smokeOf_28 rfl (lv_at hl 5 rfl) ?_
              refine rS (As := [.int (pX7_nextTo (pX7_nextTo a1 a2) a2), .int a2]) (rest := []) hx hb hml hown hts hl.1 (kX7_nextTo l D cyC cyI cyO (pX7_nextTo (pX7_nextTo a1 a2) a2) a2) bS_X7_nextTo  wml_RX7_59 ⟨rfl, rfl⟩ ⟨Nat.le_of_ble_eq_true rfl, Nat.le_of_ble_eq_true rfl, Nat.zero_le _, Nat.zero_le _⟩ [] rfl hP hK rfl rfl (Nat.le_of_ble_eq_true rfl) dX7_smokeOf_29 ?_
              refine lv_istore (lv' := [(4, .int (pX7_nextTo (pX7_nextTo (pX7_nextTo a1 a2) a2) a2)), (5, .int 2), (3, .int ((((1 : Int32) <<< (a1 &&& 31)) ||| ((1 : Int32) <<< ((pX7_nextTo a1 a2) &&& 31))) ||| ((1 : Int32) <<< ((pX7_nextTo (pX7_nextTo a1 a2) a2) &&& 31)))), (0, .ref (A 0)), (1, .int a1), (2, .int a2)]) hx hb dX7_smokeOf_32 hl (by decide) rfl (fun ls hl => ?_)
              refine lv_iload_n hx hb dX7_smokeOf_34 rfl (lv_at hl 2 rfl) ?_
              refine lv_iload hx hb dX7_smokeOf_35 (lv_at hl 0 rfl) ?_
              refine lv_if_ge (tgt := 44) hx hb dX7_smokeOf_37 (by decide) (fun c_9 => ?_) (fun c_9 => ?_)
              · refine lv_iconst (v := 1) hx hb dX7_smokeOf_44 (by decide) ?_
                refine lv_iload hx hb dX7_smokeOf_45 (lv_at hl 0 rfl) ?_
                refine lv_ishl hx hb dX7_smokeOf_47 ?_
                refine lv_ior hx hb dX7_smokeOf_48 ?_
                refine lv_istore_n (lv' := [(3, .int (((((1 : Int32) <<< (a1 &&& 31)) ||| ((1 : Int32) <<< ((pX7_nextTo a1 a2) &&& 31))) ||| ((1 : Int32) <<< ((pX7_nextTo (pX7_nextTo a1 a2) a2) &&& 31))) ||| ((1 : Int32) <<< ((pX7_nextTo (pX7_nextTo (pX7_nextTo a1 a2) a2) a2) &&& 31)))), (4, .int (pX7_nextTo (pX7_nextTo (pX7_nextTo a1 a2) a2) a2)), (5, .int 2), (0, .ref (A 0)), (1, .int a1), (2, .int a2)]) hx hb dX7_smokeOf_49 rfl hl (by decide) rfl (fun ls hl => ?_)
                refine lv_iinc (v := 3) (lv' := [(5, .int 3), (3, .int (((((1 : Int32) <<< (a1 &&& 31)) ||| ((1 : Int32) <<< ((pX7_nextTo a1 a2) &&& 31))) ||| ((1 : Int32) <<< ((pX7_nextTo (pX7_nextTo a1 a2) a2) &&& 31))) ||| ((1 : Int32) <<< ((pX7_nextTo (pX7_nextTo (pX7_nextTo a1 a2) a2) a2) &&& 31)))), (4, .int (pX7_nextTo (pX7_nextTo (pX7_nextTo a1 a2) a2) a2)), (0, .ref (A 0)), (1, .int a1), (2, .int a2)]) hx hb dX7_smokeOf_50 hl (k := 2) rfl (by decide) (by decide) rfl (fun ls hl => ?_)
                refine lv_goto (tgt := 10) hx hb dX7_smokeOf_53 (by decide) ?_
                refine lv_iload hx hb dX7_smokeOf_10 (lv_at hl 0 rfl) ?_
                refine lv_aload_n hx hb dX7_smokeOf_12 rfl (lv_at hl 3 rfl) ?_
                refine va_get (D := D) (ci := 6) (v := .ref (A 1)) (C := RX7) (T := TX7) (N := 15) hx hb hts inT_X7 hown hK.1 hP 0 rfl rfl 0 (by decide) (hts _ wfl_RX7_7) (fun _ h9 => h9) rfl dX7_smokeOf_13 ?_
                refine lv_iconst (v := 2) hx hb dX7_smokeOf_16 (by decide) ?_
                refine va_iald (D := D) (f := (u 0)) hx hb hK.1 hP 1 1 rfl rfl (vp_lit (by decide)) dX7_smokeOf_17 ?_
                refine W.eq (g2 := F0 m _ ls [.int ((u 0) 2), .int 3]) rfl ?_
                refine lv_icmp_ge (tgt := 56) hx hb dX7_smokeOf_18 (by decide) (fun c_10 => ?_) (fun c_10 => absurd hm3 c_10)
                refine lv_iload_n hx hb dX7_smokeOf_56 rfl (lv_at hl 1 rfl) ?_
                have e9 : (((((1 : Int32) <<< (a1 &&& 31)) ||| ((1 : Int32) <<< ((pX7_nextTo a1 a2) &&& 31))) ||| ((1 : Int32) <<< ((pX7_nextTo (pX7_nextTo a1 a2) a2) &&& 31))) ||| ((1 : Int32) <<< ((pX7_nextTo (pX7_nextTo (pX7_nextTo a1 a2) a2) a2) &&& 31))) = (pX7_smokeOf u w a1 a2) := by simp only [pX7_smokeOf, if_neg c_1, if_neg c_2, if_pos c_3, if_neg c_4, if_pos c_6, if_neg c_7, if_pos c_9]
                exact W.iret (v := (((((1 : Int32) <<< (a1 &&& 31)) ||| ((1 : Int32) <<< ((pX7_nextTo a1 a2) &&& 31))) ||| ((1 : Int32) <<< ((pX7_nextTo (pX7_nextTo a1 a2) a2) &&& 31))) ||| ((1 : Int32) <<< ((pX7_nextTo (pX7_nextTo (pX7_nextTo a1 a2) a2) a2) &&& 31)))) hx hb hr (fun t ht hW => ⟨_, rfl, e9, ht⟩) (fun _ h => absurd h List.not_mem_nil) dX7_smokeOf_57
              · refine lv_iconst (v := 0) hx hb dX7_smokeOf_40 (by decide) ?_
                refine lv_goto (tgt := 48) hx hb dX7_smokeOf_41 (by decide) ?_
                refine lv_ior hx hb dX7_smokeOf_48 ?_
                refine lv_istore_n (lv' := [(3, .int (((((1 : Int32) <<< (a1 &&& 31)) ||| ((1 : Int32) <<< ((pX7_nextTo a1 a2) &&& 31))) ||| ((1 : Int32) <<< ((pX7_nextTo (pX7_nextTo a1 a2) a2) &&& 31))) ||| (0 : Int32))), (4, .int (pX7_nextTo (pX7_nextTo (pX7_nextTo a1 a2) a2) a2)), (5, .int 2), (0, .ref (A 0)), (1, .int a1), (2, .int a2)]) hx hb dX7_smokeOf_49 rfl hl (by decide) rfl (fun ls hl => ?_)
                refine lv_iinc (v := 3) (lv' := [(5, .int 3), (3, .int (((((1 : Int32) <<< (a1 &&& 31)) ||| ((1 : Int32) <<< ((pX7_nextTo a1 a2) &&& 31))) ||| ((1 : Int32) <<< ((pX7_nextTo (pX7_nextTo a1 a2) a2) &&& 31))) ||| (0 : Int32))), (4, .int (pX7_nextTo (pX7_nextTo (pX7_nextTo a1 a2) a2) a2)), (0, .ref (A 0)), (1, .int a1), (2, .int a2)]) hx hb dX7_smokeOf_50 hl (k := 2) rfl (by decide) (by decide) rfl (fun ls hl => ?_)
                refine lv_goto (tgt := 10) hx hb dX7_smokeOf_53 (by decide) ?_
                refine lv_iload hx hb dX7_smokeOf_10 (lv_at hl 0 rfl) ?_
                refine lv_aload_n hx hb dX7_smokeOf_12 rfl (lv_at hl 3 rfl) ?_
                refine va_get (D := D) (ci := 6) (v := .ref (A 1)) (C := RX7) (T := TX7) (N := 15) hx hb hts inT_X7 hown hK.1 hP 0 rfl rfl 0 (by decide) (hts _ wfl_RX7_7) (fun _ h9 => h9) rfl dX7_smokeOf_13 ?_
                refine lv_iconst (v := 2) hx hb dX7_smokeOf_16 (by decide) ?_
                refine va_iald (D := D) (f := (u 0)) hx hb hK.1 hP 1 1 rfl rfl (vp_lit (by decide)) dX7_smokeOf_17 ?_
                refine W.eq (g2 := F0 m _ ls [.int ((u 0) 2), .int 3]) rfl ?_
                refine lv_icmp_ge (tgt := 56) hx hb dX7_smokeOf_18 (by decide) (fun c_11 => ?_) (fun c_11 => absurd hm3 c_11)
                refine lv_iload_n hx hb dX7_smokeOf_56 rfl (lv_at hl 1 rfl) ?_
                have e9 : (((((1 : Int32) <<< (a1 &&& 31)) ||| ((1 : Int32) <<< ((pX7_nextTo a1 a2) &&& 31))) ||| ((1 : Int32) <<< ((pX7_nextTo (pX7_nextTo a1 a2) a2) &&& 31))) ||| (0 : Int32)) = (pX7_smokeOf u w a1 a2) := by simp only [pX7_smokeOf, if_neg c_1, if_neg c_2, if_pos c_3, if_neg c_4, if_pos c_6, if_neg c_7, if_neg c_9]
                exact W.iret (v := (((((1 : Int32) <<< (a1 &&& 31)) ||| ((1 : Int32) <<< ((pX7_nextTo a1 a2) &&& 31))) ||| ((1 : Int32) <<< ((pX7_nextTo (pX7_nextTo a1 a2) a2) &&& 31))) ||| (0 : Int32))) hx hb hr (fun t ht hW => ⟨_, rfl, e9, ht⟩) (fun _ h => absurd h List.not_mem_nil) dX7_smokeOf_57
          · refine lv_iconst (v := 0) hx hb dX7_smokeOf_40 (by decide) ?_
            refine lv_goto (tgt := 48) hx hb dX7_smokeOf_41 (by decide) ?_
            refine lv_ior hx hb dX7_smokeOf_48 ?_
            refine lv_istore_n (lv' := [(3, .int ((((1 : Int32) <<< (a1 &&& 31)) ||| ((1 : Int32) <<< ((pX7_nextTo a1 a2) &&& 31))) ||| (0 : Int32))), (4, .int (pX7_nextTo (pX7_nextTo a1 a2) a2)), (5, .int 1), (0, .ref (A 0)), (1, .int a1), (2, .int a2)]) hx hb dX7_smokeOf_49 rfl hl (by decide) rfl (fun ls hl => ?_)
            refine lv_iinc (v := 2) (lv' := [(5, .int 2), (3, .int ((((1 : Int32) <<< (a1 &&& 31)) ||| ((1 : Int32) <<< ((pX7_nextTo a1 a2) &&& 31))) ||| (0 : Int32))), (4, .int (pX7_nextTo (pX7_nextTo a1 a2) a2)), (0, .ref (A 0)), (1, .int a1), (2, .int a2)]) hx hb dX7_smokeOf_50 hl (k := 2) rfl (by decide) (by decide) rfl (fun ls hl => ?_)
            refine lv_goto (tgt := 10) hx hb dX7_smokeOf_53 (by decide) ?_
            refine lv_iload hx hb dX7_smokeOf_10 (lv_at hl 0 rfl) ?_
            refine lv_aload_n hx hb dX7_smokeOf_12 rfl (lv_at hl 3 rfl) ?_
            refine va_get (D := D) (ci := 6) (v := .ref (A 1)) (C := RX7) (T := TX7) (N := 15) hx hb hts inT_X7 hown hK.1 hP 0 rfl rfl 0 (by decide) (hts _ wfl_RX7_7) (fun _ h9 => h9) rfl dX7_smokeOf_13 ?_
            refine lv_iconst (v := 2) hx hb dX7_smokeOf_16 (by decide) ?_
            refine va_iald (D := D) (f := (u 0)) hx hb hK.1 hP 1 1 rfl rfl (vp_lit (by decide)) dX7_smokeOf_17 ?_
            refine W.eq (g2 := F0 m _ ls [.int ((u 0) 2), .int 2]) rfl ?_
            refine lv_icmp_ge (tgt := 56) hx hb dX7_smokeOf_18 (by decide) (fun c_12 => ?_) (fun c_12 => ?_)
            · refine lv_iload_n hx hb dX7_smokeOf_56 rfl (lv_at hl 1 rfl) ?_
              have e9 : ((((1 : Int32) <<< (a1 &&& 31)) ||| ((1 : Int32) <<< ((pX7_nextTo a1 a2) &&& 31))) ||| (0 : Int32)) = (pX7_smokeOf u w a1 a2) := by simp only [pX7_smokeOf, if_neg c_1, if_neg c_2, if_pos c_3, if_neg c_4, if_neg c_6, if_pos c_12]
              exact W.iret (v := ((((1 : Int32) <<< (a1 &&& 31)) ||| ((1 : Int32) <<< ((pX7_nextTo a1 a2) &&& 31))) ||| (0 : Int32))) hx hb hr (fun t ht hW => ⟨_, rfl, e9, ht⟩) (fun _ h => absurd h List.not_mem_nil) dX7_smokeOf_57
            · refine lv_iload hx hb dX7_smokeOf_21 (lv_at hl 2 rfl) ?_
              refine lv_if_lt (tgt := 56) hx hb dX7_smokeOf_23 (by decide) (fun c_13 => ?_) (fun c_13 => absurd (Int32.not_le.mp c_6) c_13)
              refine lv_iload_n hx hb dX7_smokeOf_56 rfl (lv_at hl 1 rfl) ?_
              have e9 : ((((1 : Int32) <<< (a1 &&& 31)) ||| ((1 : Int32) <<< ((pX7_nextTo a1 a2) &&& 31))) ||| (0 : Int32)) = (pX7_smokeOf u w a1 a2) := by simp only [pX7_smokeOf, if_neg c_1, if_neg c_2, if_pos c_3, if_neg c_4, if_neg c_6, if_neg c_12]
              exact W.iret (v := ((((1 : Int32) <<< (a1 &&& 31)) ||| ((1 : Int32) <<< ((pX7_nextTo a1 a2) &&& 31))) ||| (0 : Int32))) hx hb hr (fun t ht hW => ⟨_, rfl, e9, ht⟩) (fun _ h => absurd h List.not_mem_nil) dX7_smokeOf_57
      · refine lv_iconst (v := 0) hx hb dX7_smokeOf_40 (by decide) ?_
        refine lv_goto (tgt := 48) hx hb dX7_smokeOf_41 (by decide) ?_
        refine lv_ior hx hb dX7_smokeOf_48 ?_
        refine lv_istore_n (lv' := [(3, .int (((1 : Int32) <<< (a1 &&& 31)) ||| (0 : Int32))), (4, .int (pX7_nextTo a1 a2)), (5, .int 0), (0, .ref (A 0)), (1, .int a1), (2, .int a2)]) hx hb dX7_smokeOf_49 rfl hl (by decide) rfl (fun ls hl => ?_)
        refine lv_iinc (v := 1) (lv' := [(5, .int 1), (3, .int (((1 : Int32) <<< (a1 &&& 31)) ||| (0 : Int32))), (4, .int (pX7_nextTo a1 a2)), (0, .ref (A 0)), (1, .int a1), (2, .int a2)]) hx hb dX7_smokeOf_50 hl (k := 2) rfl (by decide) (by decide) rfl (fun ls hl => ?_)
        refine lv_goto (tgt := 10) hx hb dX7_smokeOf_53 (by decide) ?_
        refine lv_iload hx hb dX7_smokeOf_10 (lv_at hl 0 rfl) ?_
        refine lv_aload_n hx hb dX7_smokeOf_12 rfl (lv_at hl 3 rfl) ?_
        refine va_get (D := D) (ci := 6) (v := .ref (A 1)) (C := RX7) (T := TX7) (N := 15) hx hb hts inT_X7 hown hK.1 hP 0 rfl rfl 0 (by decide) (hts _ wfl_RX7_7) (fun _ h9 => h9) rfl dX7_smokeOf_13 ?_
        refine lv_iconst (v := 2) hx hb dX7_smokeOf_16 (by decide) ?_
        refine va_iald (D := D) (f := (u 0)) hx hb hK.1 hP 1 1 rfl rfl (vp_lit (by decide)) dX7_smokeOf_17 ?_
        refine W.eq (g2 := F0 m _ ls [.int ((u 0) 2), .int 1]) rfl ?_
        refine lv_icmp_ge (tgt := 56) hx hb dX7_smokeOf_18 (by decide) (fun c_14 => ?_) (fun c_14 => ?_)
        · refine lv_iload_n hx hb dX7_smokeOf_56 rfl (lv_at hl 1 rfl) ?_
          have e9 : (((1 : Int32) <<< (a1 &&& 31)) ||| (0 : Int32)) = (pX7_smokeOf u w a1 a2) := by simp only [pX7_smokeOf, if_neg c_1, if_neg c_2, if_neg c_3, if_pos c_14]
          exact W.iret (v := (((1 : Int32) <<< (a1 &&& 31)) ||| (0 : Int32))) hx hb hr (fun t ht hW => ⟨_, rfl, e9, ht⟩) (fun _ h => absurd h List.not_mem_nil) dX7_smokeOf_57
        · refine lv_iload hx hb dX7_smokeOf_21 (lv_at hl 2 rfl) ?_
          refine lv_if_lt (tgt := 56) hx hb dX7_smokeOf_23 (by decide) (fun c_15 => ?_) (fun c_15 => absurd (Int32.not_le.mp c_3) c_15)
          refine lv_iload_n hx hb dX7_smokeOf_56 rfl (lv_at hl 1 rfl) ?_
          have e9 : (((1 : Int32) <<< (a1 &&& 31)) ||| (0 : Int32)) = (pX7_smokeOf u w a1 a2) := by simp only [pX7_smokeOf, if_neg c_1, if_neg c_2, if_neg c_3, if_neg c_14]
          exact W.iret (v := (((1 : Int32) <<< (a1 &&& 31)) ||| (0 : Int32))) hx hb hr (fun t ht hW => ⟨_, rfl, e9, ht⟩) (fun _ h => absurd h List.not_mem_nil) dX7_smokeOf_57
theorem bV_X7_smokeOf : BV RX7 yX7_smokeOf cX7_smokeOf 6 (some .int) 2 := ⟨wcd_X7_smokeOf, wim_X7_smokeOf, wse_X7_smokeOf, win_RX7, by decide +kernel⟩
def pX7_smokeBy_L4 (u : (Nat → Nat → Int32)) (w : (Nat → Int32)) (a1 : Int32) : Nat → Int32 := fo (fun i x_i => (if (pX7_isIn ((u 0) 8) (nI i)) = 0 then (x_i ||| (0 : Int32)) else (x_i ||| (pX7_smokeOf u w (nI i) a1)))) 0
theorem pX7_smokeBy_L4_s (u : (Nat → Nat → Int32)) (w : (Nat → Int32)) (a1 : Int32) (i : Nat) : pX7_smokeBy_L4 u w a1 (i + 1) = (if (pX7_isIn ((u 0) 8) (nI i)) = 0 then ((pX7_smokeBy_L4 u w a1 i) ||| (0 : Int32)) else ((pX7_smokeBy_L4 u w a1 i) ||| (pX7_smokeOf u w (nI i) a1))) := rfl
theorem pX7_smokeBy_L4_0 (u : (Nat → Nat → Int32)) (w : (Nat → Int32)) (a1 : Int32) : pX7_smokeBy_L4 u w a1 0 = 0 := rfl
def pX7_smokeBy (u : (Nat → Nat → Int32)) (w : (Nat → Int32)) (a1 : Int32) : Int32 := (pX7_smokeBy_L4 u w a1 16)
set_option maxHeartbeats 4000000 in
set_option maxRecDepth 100000 in
theorem kX7_smokeBy (l : Launch) (D : va_G) (cyC cyI cyO : ClassId) (A : Nat → Nat) (u : (Nat → Nat → Int32)) (w : (Nat → Int32)) (a1 : Int32) (hm3 : ((u 0) 2) ≤ 3) : RO l yX7_smokeBy (Ty yX7_smokeBy cX7_smokeBy 4 (some .int)) ({ frames := 2, cells := 0, slots := 0, locals := 48 } : Room) D cyC cyI cyO (wM cyI A u w) [.ref (A 0), .int a1] (pX7_smokeBy u w a1) := by
  refine Met.ofW (cc := cX7_smokeBy) (maxL := 4) (ret := (some .int)) (by decide) rfl ?_
  intro p e s m args below meth cd s₁ B hml hv
  obtain ⟨rfl, hP, hK⟩ := hv
  have hx := B.exec
  have hb := B.bytes
  have hr := B.returns
  have hts : ∀ w ∈ TB, w.before ([.ref (A 0), .int a1] : List Value).toArray s = true := fun w h => atoms_spec (ws := (Ty yX7_smokeBy cX7_smokeBy 4 (some .int))) B.pre w (List.mem_cons_of_mem _ h)
  have hown : s.vm.findClass RX7 = some m.cls := findClass_of_methodNamed B.named
  have hlocks := B.notSynchronized
  have hl := lv_entry ([.ref (A 0), .int a1]) (n := 4) (Nat.le_of_ble_eq_true rfl)
  rw [lg_entry_eq]
  generalize (lg_sl ([.ref (A 0), .int a1]) ++ List.replicate (4 - (lg_sl ([.ref (A 0), .int a1])).length) Slot.unset).toArray = ls at hl ⊢
  have hl : lv_has ls 4 [(0, .ref (A 0)), (1, .int a1)] := hl
  refine lv_iconst (v := 0) hx hb dX7_smokeBy_0 (by decide) ?_
  refine lv_istore_n (lv' := [(2, .int 0), (0, .ref (A 0)), (1, .int a1)]) hx hb dX7_smokeBy_1 rfl hl (by decide) rfl (fun ls hl => ?_)
  refine lv_iconst (v := 0) hx hb dX7_smokeBy_2 (by decide) ?_
  refine lv_istore_n (lv' := [(3, .int 0), (2, .int 0), (0, .ref (A 0)), (1, .int a1)]) hx hb dX7_smokeBy_3 rfl hl (by decide) rfl (fun ls hl => ?_)
  have key_4 : ∀ k i : Nat, i + k = 16 → ∀ (ls : Array Slot), lv_has ls 4 [(0, .ref (A 0)), (1, .int a1), (2, .int (pX7_smokeBy_L4 u w a1 i)), (3, .int (nI i))] → W p l e (headSpec (Ty yX7_smokeBy cX7_smokeBy 4 (some .int)) ({ frames := 2, cells := 0, slots := 0, locals := 48 } : Room)).room s m ([.ref (A 0), .int a1] : List Value).toArray below meth cd s.heap [] 0 0 (MQ below (vp_Si (fun x => x = (pX7_smokeBy u w a1))) ([.ref (A 0), .int a1] : List Value).toArray s 0 0 (fun _ => False)) (F0 m 4 ls []) := by
    intro k
    induction k with
    | zero =>
      intro i hi ls hl
      obtain rfl : i = 16 := hi
      obtain ⟨z_1, hz_1⟩ : ∃ q, q = (pX7_smokeBy_L4 u w a1 16) := ⟨_, rfl⟩
      rw [← hz_1] at hl
      refine lv_iload_n hx hb dX7_smokeBy_4 rfl (lv_at hl 3 rfl) ?_
      refine lv_bipush (v := 16) hx hb dX7_smokeBy_5 (by decide) ?_
      refine lv_icmp_ge (tgt := 43) hx hb dX7_smokeBy_7 (by decide) (fun c_2 => ?_) (fun c_2 => absurd (le_of (C := 16) (N := 16) (by decide)) c_2)
      refine lv_iload_n hx hb dX7_smokeBy_43 rfl (lv_at hl 2 rfl) ?_
      have e9 : z_1 = (pX7_smokeBy u w a1) := by simp only [pX7_smokeBy, ← hz_1]
      exact W.iret (v := z_1) hx hb hr (fun t ht hW => ⟨_, rfl, e9, ht⟩) (fun _ h => absurd h List.not_mem_nil) dX7_smokeBy_44
    | succ k ih_4 =>
      intro i hi ls hl
      have hlt : i < 16 := by omega
      refine lv_iload_n hx hb dX7_smokeBy_4 rfl (lv_at hl 3 rfl) ?_
      refine lv_bipush (v := 16) hx hb dX7_smokeBy_5 (by decide) ?_
      refine lv_icmp_ge (tgt := 43) hx hb dX7_smokeBy_7 (by decide) (fun c_3 => absurd c_3 (nle_of (C := 16) (N := 16) (by decide) hlt (by decide))) (fun c_3 => ?_)
      refine lv_iload_n hx hb dX7_smokeBy_10 rfl (lv_at hl 2 rfl) ?_
      refine lv_aload_n hx hb dX7_smokeBy_11 rfl (lv_at hl 0 rfl) ?_
      refine va_get (D := D) (ci := 6) (v := .ref (A 1)) (C := RX7) (T := TX7) (N := 15) hx hb hts inT_X7 hown hK.1 hP 0 rfl rfl 0 (by decide) (hts _ wfl_RX7_7) (fun _ h9 => h9) rfl dX7_smokeBy_12 ?_
      refine lv_bipush (v := 8) hx hb dX7_smokeBy_15 (by decide) ?_
      refine va_iald (D := D) (f := (u 0)) hx hb hK.1 hP 1 1 rfl rfl (vp_lit (by decide)) dX7_smokeBy_17 ?_
      refine W.eq (g2 := F0 m _ ls [.int ((u 0) 8), .int (pX7_smokeBy_L4 u w a1 i)]) rfl ?_
      refine lv_iload_n hx hb dX7_smokeBy_18 rfl (lv_at hl 3 rfl) ?_
      refine rS (As := [.int ((u 0) 8), .int (nI i)]) (rest := [.int (pX7_smokeBy_L4 u w a1 i)]) hx hb hml hown hts hl.1 (kX7_isIn l D cyC cyI cyO ((u 0) 8) (nI i)) bS_X7_isIn  wml_RX7_62 ⟨rfl, rfl⟩ ⟨Nat.le_of_ble_eq_true rfl, Nat.le_of_ble_eq_true rfl, Nat.zero_le _, Nat.zero_le _⟩ [] rfl hP hK rfl rfl (Nat.le_of_ble_eq_true rfl) dX7_smokeBy_19 ?_
      refine lv_if_eq (tgt := 34) hx hb dX7_smokeBy_22 (by decide) (fun c_4 => ?_) (fun c_4 => ?_)
      · refine lv_iconst (v := 0) hx hb dX7_smokeBy_34 (by decide) ?_
        refine lv_ior hx hb dX7_smokeBy_35 ?_
        refine lv_istore_n (lv' := [(2, .int ((pX7_smokeBy_L4 u w a1 i) ||| (0 : Int32))), (0, .ref (A 0)), (1, .int a1), (3, .int (nI i))]) hx hb dX7_smokeBy_36 rfl hl (by decide) rfl (fun ls hl => ?_)
        refine lv_iinc (v := (nI (i + 1))) (lv' := [(3, .int (nI (i + 1))), (2, .int ((pX7_smokeBy_L4 u w a1 i) ||| (0 : Int32))), (0, .ref (A 0)), (1, .int a1)]) hx hb dX7_smokeBy_37 hl (k := 3) rfl (nI_succ i).symm (by decide) rfl (fun ls hl => ?_)
        refine lv_goto (tgt := 4) hx hb dX7_smokeBy_40 (by decide) ?_
        have e8 : pX7_smokeBy_L4 u w a1 (i + 1) = ((pX7_smokeBy_L4 u w a1 i) ||| (0 : Int32)) := by rw [pX7_smokeBy_L4_s] <;> simp only [if_pos c_4]
        exact ih_4 (i + 1) (by omega) ls (by rw [e8]; exact lv_sub hl [2, 3, 1, 0] rfl)
      · refine lv_aload_n hx hb dX7_smokeBy_25 rfl (lv_at hl 0 rfl) ?_
        refine lv_iload_n hx hb dX7_smokeBy_26 rfl (lv_at hl 3 rfl) ?_
        refine lv_iload_n hx hb dX7_smokeBy_27 rfl (lv_at hl 1 rfl) ?_
        refine rV (As := [.int (nI i), .int a1]) (rest := [.int (pX7_smokeBy_L4 u w a1 i)]) hx hb hml hown hts hl.1 (kX7_smokeOf l D cyC cyI cyO A u w (nI i) a1 hm3) bV_X7_smokeOf  wml_RX7_66 ⟨rfl, rfl⟩ ⟨Nat.le_of_ble_eq_true rfl, Nat.le_of_ble_eq_true rfl, Nat.zero_le _, Nat.zero_le _⟩ [0, 1, 2, 3, 4, 5, 6] rfl hP hK 0 rfl rfl rfl rfl rfl (Nat.le_of_ble_eq_true rfl) dX7_smokeBy_28 ?_
        refine lv_goto (tgt := 35) hx hb dX7_smokeBy_31 (by decide) ?_
        refine lv_ior hx hb dX7_smokeBy_35 ?_
        refine lv_istore_n (lv' := [(2, .int ((pX7_smokeBy_L4 u w a1 i) ||| (pX7_smokeOf u w (nI i) a1))), (0, .ref (A 0)), (1, .int a1), (3, .int (nI i))]) hx hb dX7_smokeBy_36 rfl hl (by decide) rfl (fun ls hl => ?_)
        refine lv_iinc (v := (nI (i + 1))) (lv' := [(3, .int (nI (i + 1))), (2, .int ((pX7_smokeBy_L4 u w a1 i) ||| (pX7_smokeOf u w (nI i) a1))), (0, .ref (A 0)), (1, .int a1)]) hx hb dX7_smokeBy_37 hl (k := 3) rfl (nI_succ i).symm (by decide) rfl (fun ls hl => ?_)
        refine lv_goto (tgt := 4) hx hb dX7_smokeBy_40 (by decide) ?_
        have e8 : pX7_smokeBy_L4 u w a1 (i + 1) = ((pX7_smokeBy_L4 u w a1 i) ||| (pX7_smokeOf u w (nI i) a1)) := by rw [pX7_smokeBy_L4_s] <;> simp only [if_neg c_4]
        exact ih_4 (i + 1) (by omega) ls (by rw [e8]; exact lv_sub hl [2, 3, 1, 0] rfl)
  exact key_4 16 0 (Nat.zero_add 16) ls (lv_sub hl [2, 3, 1, 0] rfl)
theorem bV_X7_smokeBy : BV RX7 yX7_smokeBy cX7_smokeBy 4 (some .int) 1 := ⟨wcd_X7_smokeBy, wim_X7_smokeBy, wse_X7_smokeBy, win_RX7, by decide +kernel⟩
def pX7_smoke (u : (Nat → Nat → Int32)) (w : (Nat → Int32)) : Int32 := (pX7_smokeBy u w ((u 0) 1))
set_option maxHeartbeats 4000000 in
set_option maxRecDepth 100000 in
theorem kX7_smoke (l : Launch) (D : va_G) (cyC cyI cyO : ClassId) (A : Nat → Nat) (u : (Nat → Nat → Int32)) (w : (Nat → Int32)) (hm3 : ((u 0) 2) ≤ 3) : RO l yX7_smoke (Ty yX7_smoke cX7_smoke 1 (some .int)) ({ frames := 3, cells := 0, slots := 0, locals := 71 } : Room) D cyC cyI cyO (wM cyI A u w) [.ref (A 0)] (pX7_smoke u w) := by
  refine Met.ofW (cc := cX7_smoke) (maxL := 1) (ret := (some .int)) (by decide) rfl ?_
  intro p e s m args below meth cd s₁ B hml hv
  obtain ⟨rfl, hP, hK⟩ := hv
  have hx := B.exec
  have hb := B.bytes
  have hr := B.returns
  have hts : ∀ w ∈ TB, w.before ([.ref (A 0)] : List Value).toArray s = true := fun w h => atoms_spec (ws := (Ty yX7_smoke cX7_smoke 1 (some .int))) B.pre w (List.mem_cons_of_mem _ h)
  have hown : s.vm.findClass RX7 = some m.cls := findClass_of_methodNamed B.named
  have hlocks := B.notSynchronized
  have hl := lv_entry ([.ref (A 0)]) (n := 1) (Nat.le_of_ble_eq_true rfl)
  rw [lg_entry_eq]
  generalize (lg_sl ([.ref (A 0)]) ++ List.replicate (1 - (lg_sl ([.ref (A 0)])).length) Slot.unset).toArray = ls at hl ⊢
  have hl : lv_has ls 1 [(0, .ref (A 0))] := hl
  refine lv_aload_n hx hb dX7_smoke_0 rfl (lv_at hl 0 rfl) ?_
  refine lv_aload_n hx hb dX7_smoke_1 rfl (lv_at hl 0 rfl) ?_
  refine va_get (D := D) (ci := 6) (v := .ref (A 1)) (C := RX7) (T := TX7) (N := 15) hx hb hts inT_X7 hown hK.1 hP 0 rfl rfl 0 (by decide) (hts _ wfl_RX7_7) (fun _ h9 => h9) rfl dX7_smoke_2 ?_
  refine lv_iconst (v := 1) hx hb dX7_smoke_5 (by decide) ?_
  refine va_iald (D := D) (f := (u 0)) hx hb hK.1 hP 1 1 rfl rfl (vp_lit (by decide)) dX7_smoke_6 ?_
  refine W.eq (g2 := F0 m _ ls [.int ((u 0) 1), .ref (A 0)]) rfl ?_
  refine rV (As := [.int ((u 0) 1)]) (rest := []) hx hb hml hown hts hl.1 (kX7_smokeBy l D cyC cyI cyO A u w ((u 0) 1) hm3) bV_X7_smokeBy  wml_RX7_69 ⟨rfl, rfl⟩ ⟨Nat.le_of_ble_eq_true rfl, Nat.le_of_ble_eq_true rfl, Nat.zero_le _, Nat.zero_le _⟩ [0, 1, 2, 3, 4, 5, 6] rfl hP hK 0 rfl rfl rfl rfl rfl (Nat.le_of_ble_eq_true rfl) dX7_smoke_7 ?_
  have e9 : (pX7_smokeBy u w ((u 0) 1)) = (pX7_smoke u w) := rfl
  exact W.iret (v := (pX7_smokeBy u w ((u 0) 1))) hx hb hr (fun t ht hW => ⟨_, rfl, e9, ht⟩) (fun _ h => absurd h List.not_mem_nil) dX7_smoke_10
theorem bV_X7_smoke : BV RX7 yX7_smoke cX7_smoke 1 (some .int) 0 := ⟨wcd_X7_smoke, wim_X7_smoke, wse_X7_smoke, win_RX7, by decide +kernel⟩
def pX7_nearCoops_L18 (u : (Nat → Nat → Int32)) (w : (Nat → Int32)) (i : Nat) (x_i : Int32) : Nat → Int32 := fo (fun i1 x_i1 => (if (pX7_nextTo (nI i) (nI i1)) < 0 then (x_i1 ||| (0 : Int32)) else (if (pX7_isIn ((u 0) 9) (pX7_nextTo (nI i) (nI i1))) = 0 then (x_i1 ||| (0 : Int32)) else (x_i1 ||| ((1 : Int32) <<< ((nI i) &&& 31)))))) x_i
theorem pX7_nearCoops_L18_s (u : (Nat → Nat → Int32)) (w : (Nat → Int32)) (i : Nat) (x_i : Int32) (i1 : Nat) : pX7_nearCoops_L18 u w i x_i (i1 + 1) = (if (pX7_nextTo (nI i) (nI i1)) < 0 then ((pX7_nearCoops_L18 u w i x_i i1) ||| (0 : Int32)) else (if (pX7_isIn ((u 0) 9) (pX7_nextTo (nI i) (nI i1))) = 0 then ((pX7_nearCoops_L18 u w i x_i i1) ||| (0 : Int32)) else ((pX7_nearCoops_L18 u w i x_i i1) ||| ((1 : Int32) <<< ((nI i) &&& 31))))) := rfl
theorem pX7_nearCoops_L18_0 (u : (Nat → Nat → Int32)) (w : (Nat → Int32)) (i : Nat) (x_i : Int32) : pX7_nearCoops_L18 u w i x_i 0 = x_i := rfl
def pX7_nearCoops_L10 (u : (Nat → Nat → Int32)) (w : (Nat → Int32)) : Nat → Int32 := fo (fun i x_i => (pX7_nearCoops_L18 u w i x_i 4)) ((u 0) 9)
theorem pX7_nearCoops_L10_s (u : (Nat → Nat → Int32)) (w : (Nat → Int32)) (i : Nat) : pX7_nearCoops_L10 u w (i + 1) = (pX7_nearCoops_L18 u w i (pX7_nearCoops_L10 u w i) 4) := rfl
theorem pX7_nearCoops_L10_0 (u : (Nat → Nat → Int32)) (w : (Nat → Int32)) : pX7_nearCoops_L10 u w 0 = ((u 0) 9) := rfl
def pX7_nearCoops (u : (Nat → Nat → Int32)) (w : (Nat → Int32)) : Int32 := (pX7_nearCoops_L10 u w 16)
set_option maxHeartbeats 4000000 in
set_option maxRecDepth 100000 in
theorem kX7_nearCoops (l : Launch) (D : va_G) (cyC cyI cyO : ClassId) (A : Nat → Nat) (u : (Nat → Nat → Int32)) (w : (Nat → Int32)) : RO l yX7_nearCoops (Ty yX7_nearCoops cX7_nearCoops 5 (some .int)) ({ frames := 1, cells := 0, slots := 0, locals := 23 } : Room) D cyC cyI cyO (wM cyI A u w) [.ref (A 0)] (pX7_nearCoops u w) := by
  refine Met.ofW (cc := cX7_nearCoops) (maxL := 5) (ret := (some .int)) (by decide) rfl ?_
  intro p e s m args below meth cd s₁ B hml hv
  obtain ⟨rfl, hP, hK⟩ := hv
  have hx := B.exec
  have hb := B.bytes
  have hr := B.returns
  have hts : ∀ w ∈ TB, w.before ([.ref (A 0)] : List Value).toArray s = true := fun w h => atoms_spec (ws := (Ty yX7_nearCoops cX7_nearCoops 5 (some .int))) B.pre w (List.mem_cons_of_mem _ h)
  have hown : s.vm.findClass RX7 = some m.cls := findClass_of_methodNamed B.named
  have hlocks := B.notSynchronized
  have hl := lv_entry ([.ref (A 0)]) (n := 5) (Nat.le_of_ble_eq_true rfl)
  rw [lg_entry_eq]
  generalize (lg_sl ([.ref (A 0)]) ++ List.replicate (5 - (lg_sl ([.ref (A 0)])).length) Slot.unset).toArray = ls at hl ⊢
  have hl : lv_has ls 5 [(0, .ref (A 0))] := hl
  refine lv_aload_n hx hb dX7_nearCoops_0 rfl (lv_at hl 0 rfl) ?_
  refine va_get (D := D) (ci := 6) (v := .ref (A 1)) (C := RX7) (T := TX7) (N := 15) hx hb hts inT_X7 hown hK.1 hP 0 rfl rfl 0 (by decide) (hts _ wfl_RX7_7) (fun _ h9 => h9) rfl dX7_nearCoops_1 ?_
  refine lv_bipush (v := 9) hx hb dX7_nearCoops_4 (by decide) ?_
  refine va_iald (D := D) (f := (u 0)) hx hb hK.1 hP 1 1 rfl rfl (vp_lit (by decide)) dX7_nearCoops_6 ?_
  refine W.eq (g2 := F0 m _ ls [.int ((u 0) 9)]) rfl ?_
  refine lv_istore_n (lv' := [(1, .int ((u 0) 9)), (0, .ref (A 0))]) hx hb dX7_nearCoops_7 rfl hl (by decide) rfl (fun ls hl => ?_)
  refine lv_iconst (v := 0) hx hb dX7_nearCoops_8 (by decide) ?_
  refine lv_istore_n (lv' := [(2, .int 0), (1, .int ((u 0) 9)), (0, .ref (A 0))]) hx hb dX7_nearCoops_9 rfl hl (by decide) rfl (fun ls hl => ?_)
  have key_10 : ∀ k i : Nat, i + k = 16 → ∀ (ls : Array Slot), lv_has ls 5 [(0, .ref (A 0)), (1, .int (pX7_nearCoops_L10 u w i)), (2, .int (nI i))] → W p l e (headSpec (Ty yX7_nearCoops cX7_nearCoops 5 (some .int)) ({ frames := 1, cells := 0, slots := 0, locals := 23 } : Room)).room s m ([.ref (A 0)] : List Value).toArray below meth cd s.heap [] 0 0 (MQ below (vp_Si (fun x => x = (pX7_nearCoops u w))) ([.ref (A 0)] : List Value).toArray s 0 0 (fun _ => False)) (F0 m 10 ls []) := by
    intro k
    induction k with
    | zero =>
      intro i hi ls hl
      obtain rfl : i = 16 := hi
      obtain ⟨z_1, hz_1⟩ : ∃ q, q = (pX7_nearCoops_L10 u w 16) := ⟨_, rfl⟩
      rw [← hz_1] at hl
      refine lv_iload_n hx hb dX7_nearCoops_10 rfl (lv_at hl 2 rfl) ?_
      refine lv_bipush (v := 16) hx hb dX7_nearCoops_11 (by decide) ?_
      refine lv_icmp_ge (tgt := 72) hx hb dX7_nearCoops_13 (by decide) (fun c_2 => ?_) (fun c_2 => absurd (le_of (C := 16) (N := 16) (by decide)) c_2)
      refine lv_iload_n hx hb dX7_nearCoops_72 rfl (lv_at hl 1 rfl) ?_
      have e9 : z_1 = (pX7_nearCoops u w) := by simp only [pX7_nearCoops, ← hz_1]
      exact W.iret (v := z_1) hx hb hr (fun t ht hW => ⟨_, rfl, e9, ht⟩) (fun _ h => absurd h List.not_mem_nil) dX7_nearCoops_73
    | succ k ih_10 =>
      intro i hi ls hl
      have hlt : i < 16 := by omega
      refine lv_iload_n hx hb dX7_nearCoops_10 rfl (lv_at hl 2 rfl) ?_
      refine lv_bipush (v := 16) hx hb dX7_nearCoops_11 (by decide) ?_
      refine lv_icmp_ge (tgt := 72) hx hb dX7_nearCoops_13 (by decide) (fun c_3 => absurd c_3 (nle_of (C := 16) (N := 16) (by decide) hlt (by decide))) (fun c_3 => ?_)
      refine lv_iconst (v := 0) hx hb dX7_nearCoops_16 (by decide) ?_
      refine lv_istore_n (lv' := [(3, .int 0), (0, .ref (A 0)), (1, .int (pX7_nearCoops_L10 u w i)), (2, .int (nI i))]) hx hb dX7_nearCoops_17 rfl hl (by decide) rfl (fun ls hl => ?_)
      have key_18 : ∀ k i1 : Nat, i1 + k = 4 → ∀ (ls : Array Slot), lv_has ls 5 [(0, .ref (A 0)), (1, .int (pX7_nearCoops_L18 u w i (pX7_nearCoops_L10 u w i) i1)), (2, .int (nI i)), (3, .int (nI i1))] → W p l e (headSpec (Ty yX7_nearCoops cX7_nearCoops 5 (some .int)) ({ frames := 1, cells := 0, slots := 0, locals := 23 } : Room)).room s m ([.ref (A 0)] : List Value).toArray below meth cd s.heap [] 0 0 (MQ below (vp_Si (fun x => x = (pX7_nearCoops u w))) ([.ref (A 0)] : List Value).toArray s 0 0 (fun _ => False)) (F0 m 18 ls []) := by
        intro k
        induction k with
        | zero =>
          intro i1 hi1 ls hl
          obtain rfl : i1 = 4 := hi1
          obtain ⟨z_4, hz_4⟩ : ∃ q, q = (pX7_nearCoops_L18 u w i (pX7_nearCoops_L10 u w i) 4) := ⟨_, rfl⟩
          rw [← hz_4] at hl
          refine lv_iload_n hx hb dX7_nearCoops_18 rfl (lv_at hl 3 rfl) ?_
          refine lv_iconst (v := 4) hx hb dX7_nearCoops_19 (by decide) ?_
          refine lv_icmp_ge (tgt := 66) hx hb dX7_nearCoops_20 (by decide) (fun c_5 => ?_) (fun c_5 => absurd (le_of (C := 4) (N := 4) (by decide)) c_5)
          refine lv_iinc (v := (nI (i + 1))) (lv' := [(2, .int (nI (i + 1))), (0, .ref (A 0)), (1, .int z_4), (3, .int (nI 4))]) hx hb dX7_nearCoops_66 hl (k := 2) rfl (nI_succ i).symm (by decide) rfl (fun ls hl => ?_)
          refine lv_goto (tgt := 10) hx hb dX7_nearCoops_69 (by decide) ?_
          have e8 : pX7_nearCoops_L10 u w (i + 1) = z_4 := by rw [pX7_nearCoops_L10_s] <;> simp only [← hz_4]
          exact ih_10 (i + 1) (by omega) ls (by rw [e8]; exact lv_sub hl [1, 2, 0] rfl)
        | succ k ih_18 =>
          intro i1 hi1 ls hl
          have hlt1 : i1 < 4 := by omega
          refine lv_iload_n hx hb dX7_nearCoops_18 rfl (lv_at hl 3 rfl) ?_
          refine lv_iconst (v := 4) hx hb dX7_nearCoops_19 (by decide) ?_
          refine lv_icmp_ge (tgt := 66) hx hb dX7_nearCoops_20 (by decide) (fun c_6 => absurd c_6 (nle_of (C := 4) (N := 4) (by decide) hlt1 (by decide))) (fun c_6 => ?_)
          refine lv_iload_n hx hb dX7_nearCoops_23 rfl (lv_at hl 2 rfl) ?_
          refine lv_iload_n hx hb dX7_nearCoops_24 rfl (lv_at hl 3 rfl) ?_
          refine rS (As := [.int (nI i), .int (nI i1)]) (rest := []) hx hb hml hown hts hl.1 (kX7_nextTo l D cyC cyI cyO (nI i) (nI i1)) bS_X7_nextTo  wml_RX7_59 ⟨rfl, rfl⟩ ⟨Nat.le_of_ble_eq_true rfl, Nat.le_of_ble_eq_true rfl, Nat.zero_le _, Nat.zero_le _⟩ [] rfl hP hK rfl rfl (Nat.le_of_ble_eq_true rfl) dX7_nearCoops_25 ?_
          refine lv_istore (lv' := [(4, .int (pX7_nextTo (nI i) (nI i1))), (0, .ref (A 0)), (1, .int (pX7_nearCoops_L18 u w i (pX7_nearCoops_L10 u w i) i1)), (2, .int (nI i)), (3, .int (nI i1))]) hx hb dX7_nearCoops_28 hl (by decide) rfl (fun ls hl => ?_)
          refine lv_iload_n hx hb dX7_nearCoops_30 rfl (lv_at hl 2 rfl) ?_
          refine lv_iload hx hb dX7_nearCoops_31 (lv_at hl 0 rfl) ?_
          refine lv_if_lt (tgt := 57) hx hb dX7_nearCoops_33 (by decide) (fun c_7 => ?_) (fun c_7 => ?_)
          · refine lv_iconst (v := 0) hx hb dX7_nearCoops_57 (by decide) ?_
            refine lv_ior hx hb dX7_nearCoops_58 ?_
            refine lv_istore_n (lv' := [(1, .int ((pX7_nearCoops_L18 u w i (pX7_nearCoops_L10 u w i) i1) ||| (0 : Int32))), (4, .int (pX7_nextTo (nI i) (nI i1))), (0, .ref (A 0)), (2, .int (nI i)), (3, .int (nI i1))]) hx hb dX7_nearCoops_59 rfl hl (by decide) rfl (fun ls hl => ?_)
            refine lv_iinc (v := (nI (i1 + 1))) (lv' := [(3, .int (nI (i1 + 1))), (1, .int ((pX7_nearCoops_L18 u w i (pX7_nearCoops_L10 u w i) i1) ||| (0 : Int32))), (4, .int (pX7_nextTo (nI i) (nI i1))), (0, .ref (A 0)), (2, .int (nI i))]) hx hb dX7_nearCoops_60 hl (k := 4) rfl (nI_succ i1).symm (by decide) rfl (fun ls hl => ?_)
            refine lv_goto (tgt := 18) hx hb dX7_nearCoops_63 (by decide) ?_
            have e8 : pX7_nearCoops_L18 u w i (pX7_nearCoops_L10 u w i) (i1 + 1) = ((pX7_nearCoops_L18 u w i (pX7_nearCoops_L10 u w i) i1) ||| (0 : Int32)) := by rw [pX7_nearCoops_L18_s] <;> simp only [if_pos c_7]
            exact ih_18 (i1 + 1) (by omega) ls (by rw [e8]; exact lv_sub hl [3, 1, 4, 0] rfl)
          · refine lv_aload_n hx hb dX7_nearCoops_36 rfl (lv_at hl 1 rfl) ?_
            refine va_get (D := D) (ci := 6) (v := .ref (A 1)) (C := RX7) (T := TX7) (N := 15) hx hb hts inT_X7 hown hK.1 hP 0 rfl rfl 0 (by decide) (hts _ wfl_RX7_7) (fun _ h9 => h9) rfl dX7_nearCoops_37 ?_
            refine lv_bipush (v := 9) hx hb dX7_nearCoops_40 (by decide) ?_
            refine va_iald (D := D) (f := (u 0)) hx hb hK.1 hP 1 1 rfl rfl (vp_lit (by decide)) dX7_nearCoops_42 ?_
            refine W.eq (g2 := F0 m _ ls [.int ((u 0) 9), .int (pX7_nearCoops_L18 u w i (pX7_nearCoops_L10 u w i) i1)]) rfl ?_
            refine lv_iload hx hb dX7_nearCoops_43 (lv_at hl 0 rfl) ?_
            refine rS (As := [.int ((u 0) 9), .int (pX7_nextTo (nI i) (nI i1))]) (rest := [.int (pX7_nearCoops_L18 u w i (pX7_nearCoops_L10 u w i) i1)]) hx hb hml hown hts hl.1 (kX7_isIn l D cyC cyI cyO ((u 0) 9) (pX7_nextTo (nI i) (nI i1))) bS_X7_isIn  wml_RX7_62 ⟨rfl, rfl⟩ ⟨Nat.le_of_ble_eq_true rfl, Nat.le_of_ble_eq_true rfl, Nat.zero_le _, Nat.zero_le _⟩ [] rfl hP hK rfl rfl (Nat.le_of_ble_eq_true rfl) dX7_nearCoops_45 ?_
            refine lv_if_eq (tgt := 57) hx hb dX7_nearCoops_48 (by decide) (fun c_8 => ?_) (fun c_8 => ?_)
            · refine lv_iconst (v := 0) hx hb dX7_nearCoops_57 (by decide) ?_
              refine lv_ior hx hb dX7_nearCoops_58 ?_
              refine lv_istore_n (lv' := [(1, .int ((pX7_nearCoops_L18 u w i (pX7_nearCoops_L10 u w i) i1) ||| (0 : Int32))), (4, .int (pX7_nextTo (nI i) (nI i1))), (0, .ref (A 0)), (2, .int (nI i)), (3, .int (nI i1))]) hx hb dX7_nearCoops_59 rfl hl (by decide) rfl (fun ls hl => ?_)
              refine lv_iinc (v := (nI (i1 + 1))) (lv' := [(3, .int (nI (i1 + 1))), (1, .int ((pX7_nearCoops_L18 u w i (pX7_nearCoops_L10 u w i) i1) ||| (0 : Int32))), (4, .int (pX7_nextTo (nI i) (nI i1))), (0, .ref (A 0)), (2, .int (nI i))]) hx hb dX7_nearCoops_60 hl (k := 4) rfl (nI_succ i1).symm (by decide) rfl (fun ls hl => ?_)
              refine lv_goto (tgt := 18) hx hb dX7_nearCoops_63 (by decide) ?_
              have e8 : pX7_nearCoops_L18 u w i (pX7_nearCoops_L10 u w i) (i1 + 1) = ((pX7_nearCoops_L18 u w i (pX7_nearCoops_L10 u w i) i1) ||| (0 : Int32)) := by rw [pX7_nearCoops_L18_s] <;> simp only [if_neg c_7, if_pos c_8]
              exact ih_18 (i1 + 1) (by omega) ls (by rw [e8]; exact lv_sub hl [3, 1, 4, 0] rfl)
            · refine lv_iconst (v := 1) hx hb dX7_nearCoops_51 (by decide) ?_
              refine lv_iload_n hx hb dX7_nearCoops_52 rfl (lv_at hl 3 rfl) ?_
              refine lv_ishl hx hb dX7_nearCoops_53 ?_
              refine lv_goto (tgt := 58) hx hb dX7_nearCoops_54 (by decide) ?_
              refine lv_ior hx hb dX7_nearCoops_58 ?_
              refine lv_istore_n (lv' := [(1, .int ((pX7_nearCoops_L18 u w i (pX7_nearCoops_L10 u w i) i1) ||| ((1 : Int32) <<< ((nI i) &&& 31)))), (4, .int (pX7_nextTo (nI i) (nI i1))), (0, .ref (A 0)), (2, .int (nI i)), (3, .int (nI i1))]) hx hb dX7_nearCoops_59 rfl hl (by decide) rfl (fun ls hl => ?_)
              refine lv_iinc (v := (nI (i1 + 1))) (lv' := [(3, .int (nI (i1 + 1))), (1, .int ((pX7_nearCoops_L18 u w i (pX7_nearCoops_L10 u w i) i1) ||| ((1 : Int32) <<< ((nI i) &&& 31)))), (4, .int (pX7_nextTo (nI i) (nI i1))), (0, .ref (A 0)), (2, .int (nI i))]) hx hb dX7_nearCoops_60 hl (k := 4) rfl (nI_succ i1).symm (by decide) rfl (fun ls hl => ?_)
              refine lv_goto (tgt := 18) hx hb dX7_nearCoops_63 (by decide) ?_
              have e8 : pX7_nearCoops_L18 u w i (pX7_nearCoops_L10 u w i) (i1 + 1) = ((pX7_nearCoops_L18 u w i (pX7_nearCoops_L10 u w i) i1) ||| ((1 : Int32) <<< ((nI i) &&& 31))) := by rw [pX7_nearCoops_L18_s] <;> simp only [if_neg c_7, if_neg c_8]
              exact ih_18 (i1 + 1) (by omega) ls (by rw [e8]; exact lv_sub hl [3, 1, 4, 0] rfl)
      exact key_18 4 0 (Nat.zero_add 4) ls (lv_sub hl [1, 2, 3, 0] rfl)
  exact key_10 16 0 (Nat.zero_add 16) ls (lv_sub hl [2, 1, 0] rfl)
theorem bV_X7_nearCoops : BV RX7 yX7_nearCoops cX7_nearCoops 5 (some .int) 0 := ⟨wcd_X7_nearCoops, wim_X7_nearCoops, wse_X7_nearCoops, win_RX7, by decide +kernel⟩
def pX7_reasonToHang (u : (Nat → Nat → Int32)) (w : (Nat → Int32)) (a1 : Int32) (a2 : Int32) : Int32 := (if (pX7_of u w a2 0) = 0 then 1 else (if (pX7_hasLine u w a2) = 0 then (if ((pX7_ofOwner u w a1 1) &&& (pX7_bothOf u w a2)) = (pX7_bothOf u w a2) then (if ((pX7_smoke u w) &&& (pX7_bothOf u w a2)) = 0 then (if (pX7_ofOwner u w a1 2) = 0 then (if ((pX7_nearCoops u w) &&& (pX7_bothOf u w a2)) = 0 then 0 else 5) else 0) else 4) else 3) else 2))
set_option maxHeartbeats 4000000 in
set_option maxRecDepth 100000 in
theorem kX7_reasonToHang (l : Launch) (D : va_G) (cyC cyI cyO : ClassId) (A : Nat → Nat) (u : (Nat → Nat → Int32)) (w : (Nat → Int32)) (a1 : Int32) (a2 : Int32) (ho : vp_in a1 4) (hg : vp_in a2 28) (hm3 : ((u 0) 2) ≤ 3) : RO l yX7_reasonToHang (Ty yX7_reasonToHang cX7_reasonToHang 3 (some .int)) ({ frames := 4, cells := 0, slots := 0, locals := 91 } : Room) D cyC cyI cyO (wM cyI A u w) [.ref (A 0), .int a1, .int a2] (pX7_reasonToHang u w a1 a2) := by
  refine Met.ofW (cc := cX7_reasonToHang) (maxL := 3) (ret := (some .int)) (by decide) rfl ?_
  intro p e s m args below meth cd s₁ B hml hv
  obtain ⟨rfl, hP, hK⟩ := hv
  have hx := B.exec
  have hb := B.bytes
  have hr := B.returns
  have hts : ∀ w ∈ TB, w.before ([.ref (A 0), .int a1, .int a2] : List Value).toArray s = true := fun w h => atoms_spec (ws := (Ty yX7_reasonToHang cX7_reasonToHang 3 (some .int))) B.pre w (List.mem_cons_of_mem _ h)
  have hown : s.vm.findClass RX7 = some m.cls := findClass_of_methodNamed B.named
  have hlocks := B.notSynchronized
  have hl := lv_entry ([.ref (A 0), .int a1, .int a2]) (n := 3) (Nat.le_of_ble_eq_true rfl)
  rw [lg_entry_eq]
  generalize (lg_sl ([.ref (A 0), .int a1, .int a2]) ++ List.replicate (3 - (lg_sl ([.ref (A 0), .int a1, .int a2])).length) Slot.unset).toArray = ls at hl ⊢
  have hl : lv_has ls 3 [(0, .ref (A 0)), (1, .int a1), (2, .int a2)] := hl
  refine lv_aload_n hx hb dX7_reasonToHang_0 rfl (lv_at hl 0 rfl) ?_
  refine lv_iload_n hx hb dX7_reasonToHang_1 rfl (lv_at hl 2 rfl) ?_
  refine lv_iconst (v := 0) hx hb dX7_reasonToHang_2 (by decide) ?_
  refine rV (As := [.int a2, .int 0]) (rest := []) hx hb hml hown hts hl.1 (kX7_of l D cyC cyI cyO A u w a2 0 hg (vp_lit (by decide))) bV_X7_of  wml_RX7_52 ⟨rfl, rfl⟩ ⟨Nat.le_of_ble_eq_true rfl, Nat.le_of_ble_eq_true rfl, Nat.zero_le _, Nat.zero_le _⟩ [0, 1, 2, 3, 4, 5, 6] rfl hP hK 0 rfl rfl rfl rfl rfl (Nat.le_of_ble_eq_true rfl) dX7_reasonToHang_3 ?_
  refine lv_if_ne (tgt := 11) hx hb dX7_reasonToHang_6 (by decide) (fun c_1 => ?_) (fun c_1 => ?_)
  · refine lv_aload_n hx hb dX7_reasonToHang_11 rfl (lv_at hl 0 rfl) ?_
    refine lv_iload_n hx hb dX7_reasonToHang_12 rfl (lv_at hl 2 rfl) ?_
    refine rV (As := [.int a2]) (rest := []) hx hb hml hown hts hl.1 (kX7_hasLine l D cyC cyI cyO A u w a2 hg) bV_X7_hasLine  wml_RX7_56 ⟨rfl, rfl⟩ ⟨Nat.le_of_ble_eq_true rfl, Nat.le_of_ble_eq_true rfl, Nat.zero_le _, Nat.zero_le _⟩ [0, 1, 2, 3, 4, 5, 6] rfl hP hK 0 rfl rfl rfl rfl rfl (Nat.le_of_ble_eq_true rfl) dX7_reasonToHang_13 ?_
    refine lv_if_eq (tgt := 21) hx hb dX7_reasonToHang_16 (by decide) (fun c_2 => ?_) (fun c_2 => ?_)
    · refine lv_aload_n hx hb dX7_reasonToHang_21 rfl (lv_at hl 0 rfl) ?_
      refine lv_iload_n hx hb dX7_reasonToHang_22 rfl (lv_at hl 1 rfl) ?_
      refine lv_iconst (v := 1) hx hb dX7_reasonToHang_23 (by decide) ?_
      refine rV (As := [.int a1, .int 1]) (rest := []) hx hb hml hown hts hl.1 (kX7_ofOwner l D cyC cyI cyO A u w a1 1 ho (vp_lit (by decide))) bV_X7_ofOwner  wml_RX7_72 ⟨rfl, rfl⟩ ⟨Nat.le_of_ble_eq_true rfl, Nat.le_of_ble_eq_true rfl, Nat.zero_le _, Nat.zero_le _⟩ [0, 1, 2, 3, 4, 5, 6] rfl hP hK 0 rfl rfl rfl rfl rfl (Nat.le_of_ble_eq_true rfl) dX7_reasonToHang_24 ?_
      refine lv_aload_n hx hb dX7_reasonToHang_27 rfl (lv_at hl 0 rfl) ?_
      refine lv_iload_n hx hb dX7_reasonToHang_28 rfl (lv_at hl 2 rfl) ?_
      refine rV (As := [.int a2]) (rest := [.int (pX7_ofOwner u w a1 1)]) hx hb hml hown hts hl.1 (kX7_bothOf l D cyC cyI cyO A u w a2) bV_X7_bothOf  wml_RX7_75 ⟨rfl, rfl⟩ ⟨Nat.le_of_ble_eq_true rfl, Nat.le_of_ble_eq_true rfl, Nat.zero_le _, Nat.zero_le _⟩ [0, 1, 2, 3, 4, 5, 6] rfl hP hK 0 rfl rfl rfl rfl rfl (Nat.le_of_ble_eq_true rfl) dX7_reasonToHang_29 ?_
      refine lv_iand hx hb dX7_reasonToHang_32 ?_
      refine lv_aload_n hx hb dX7_reasonToHang_33 rfl (lv_at hl 0 rfl) ?_
      refine lv_iload_n hx hb dX7_reasonToHang_34 rfl (lv_at hl 2 rfl) ?_
      refine rV (As := [.int a2]) (rest := [.int ((pX7_ofOwner u w a1 1) &&& (pX7_bothOf u w a2))]) hx hb hml hown hts hl.1 (kX7_bothOf l D cyC cyI cyO A u w a2) bV_X7_bothOf  wml_RX7_75 ⟨rfl, rfl⟩ ⟨Nat.le_of_ble_eq_true rfl, Nat.le_of_ble_eq_true rfl, Nat.zero_le _, Nat.zero_le _⟩ [0, 1, 2, 3, 4, 5, 6] rfl hP hK 0 rfl rfl rfl rfl rfl (Nat.le_of_ble_eq_true rfl) dX7_reasonToHang_35 ?_
      refine lv_icmp_eq (tgt := 43) hx hb dX7_reasonToHang_38 (by decide) (fun c_3 => ?_) (fun c_3 => ?_)
      · refine lv_aload_n hx hb dX7_reasonToHang_43 rfl (lv_at hl 0 rfl) ?_
        refine rV (As := []) (rest := []) hx hb hml hown hts hl.1 (kX7_smoke l D cyC cyI cyO A u w hm3) bV_X7_smoke  wml_RX7_78 ⟨rfl, rfl⟩ ⟨Nat.le_of_ble_eq_true rfl, Nat.le_of_ble_eq_true rfl, Nat.zero_le _, Nat.zero_le _⟩ [0, 1, 2, 3, 4, 5, 6] rfl hP hK 0 rfl rfl rfl rfl rfl (Nat.le_of_ble_eq_true rfl) dX7_reasonToHang_44 ?_
        refine lv_aload_n hx hb dX7_reasonToHang_47 rfl (lv_at hl 0 rfl) ?_
        refine lv_iload_n hx hb dX7_reasonToHang_48 rfl (lv_at hl 2 rfl) ?_
        refine rV (As := [.int a2]) (rest := [.int (pX7_smoke u w)]) hx hb hml hown hts hl.1 (kX7_bothOf l D cyC cyI cyO A u w a2) bV_X7_bothOf  wml_RX7_75 ⟨rfl, rfl⟩ ⟨Nat.le_of_ble_eq_true rfl, Nat.le_of_ble_eq_true rfl, Nat.zero_le _, Nat.zero_le _⟩ [0, 1, 2, 3, 4, 5, 6] rfl hP hK 0 rfl rfl rfl rfl rfl (Nat.le_of_ble_eq_true rfl) dX7_reasonToHang_49 ?_
        refine lv_iand hx hb dX7_reasonToHang_52 ?_
        refine lv_if_eq (tgt := 58) hx hb dX7_reasonToHang_53 (by decide) (fun c_4 => ?_) (fun c_4 => ?_)
        · refine lv_aload_n hx hb dX7_reasonToHang_58 rfl (lv_at hl 0 rfl) ?_
          refine lv_iload_n hx hb dX7_reasonToHang_59 rfl (lv_at hl 1 rfl) ?_
          refine lv_iconst (v := 2) hx hb dX7_reasonToHang_60 (by decide) ?_
          refine rV (As := [.int a1, .int 2]) (rest := []) hx hb hml hown hts hl.1 (kX7_ofOwner l D cyC cyI cyO A u w a1 2 ho (vp_lit (by decide))) bV_X7_ofOwner  wml_RX7_72 ⟨rfl, rfl⟩ ⟨Nat.le_of_ble_eq_true rfl, Nat.le_of_ble_eq_true rfl, Nat.zero_le _, Nat.zero_le _⟩ [0, 1, 2, 3, 4, 5, 6] rfl hP hK 0 rfl rfl rfl rfl rfl (Nat.le_of_ble_eq_true rfl) dX7_reasonToHang_61 ?_
          refine lv_if_ne (tgt := 84) hx hb dX7_reasonToHang_64 (by decide) (fun c_5 => ?_) (fun c_5 => ?_)
          · refine lv_iconst (v := 0) hx hb dX7_reasonToHang_84 (by decide) ?_
            have e9 : 0 = (pX7_reasonToHang u w a1 a2) := by simp only [pX7_reasonToHang, if_neg c_1, if_pos c_2, if_pos c_3, if_pos c_4, if_neg c_5]
            exact W.iret (v := 0) hx hb hr (fun t ht hW => ⟨_, rfl, e9, ht⟩) (fun _ h => absurd h List.not_mem_nil) dX7_reasonToHang_85
          · refine lv_aload_n hx hb dX7_reasonToHang_67 rfl (lv_at hl 0 rfl) ?_
            refine rV (As := []) (rest := []) hx hb hml hown hts hl.1 (kX7_nearCoops l D cyC cyI cyO A u w) bV_X7_nearCoops  wml_RX7_82 ⟨rfl, rfl⟩ ⟨Nat.le_of_ble_eq_true rfl, Nat.le_of_ble_eq_true rfl, Nat.zero_le _, Nat.zero_le _⟩ [0, 1, 2, 3, 4, 5, 6] rfl hP hK 0 rfl rfl rfl rfl rfl (Nat.le_of_ble_eq_true rfl) dX7_reasonToHang_68 ?_
            refine lv_aload_n hx hb dX7_reasonToHang_71 rfl (lv_at hl 0 rfl) ?_
            refine lv_iload_n hx hb dX7_reasonToHang_72 rfl (lv_at hl 2 rfl) ?_
            refine rV (As := [.int a2]) (rest := [.int (pX7_nearCoops u w)]) hx hb hml hown hts hl.1 (kX7_bothOf l D cyC cyI cyO A u w a2) bV_X7_bothOf  wml_RX7_75 ⟨rfl, rfl⟩ ⟨Nat.le_of_ble_eq_true rfl, Nat.le_of_ble_eq_true rfl, Nat.zero_le _, Nat.zero_le _⟩ [0, 1, 2, 3, 4, 5, 6] rfl hP hK 0 rfl rfl rfl rfl rfl (Nat.le_of_ble_eq_true rfl) dX7_reasonToHang_73 ?_
            refine lv_iand hx hb dX7_reasonToHang_76 ?_
            refine lv_if_eq (tgt := 84) hx hb dX7_reasonToHang_77 (by decide) (fun c_6 => ?_) (fun c_6 => ?_)
            · refine lv_iconst (v := 0) hx hb dX7_reasonToHang_84 (by decide) ?_
              have e9 : 0 = (pX7_reasonToHang u w a1 a2) := by simp only [pX7_reasonToHang, if_neg c_1, if_pos c_2, if_pos c_3, if_pos c_4, if_pos c_5, if_pos c_6]
              exact W.iret (v := 0) hx hb hr (fun t ht hW => ⟨_, rfl, e9, ht⟩) (fun _ h => absurd h List.not_mem_nil) dX7_reasonToHang_85
            · refine lv_iconst (v := 5) hx hb dX7_reasonToHang_80 (by decide) ?_
              refine lv_goto (tgt := 85) hx hb dX7_reasonToHang_81 (by decide) ?_
              have e9 : 5 = (pX7_reasonToHang u w a1 a2) := by simp only [pX7_reasonToHang, if_neg c_1, if_pos c_2, if_pos c_3, if_pos c_4, if_pos c_5, if_neg c_6]
              exact W.iret (v := 5) hx hb hr (fun t ht hW => ⟨_, rfl, e9, ht⟩) (fun _ h => absurd h List.not_mem_nil) dX7_reasonToHang_85
        · refine lv_iconst (v := 4) hx hb dX7_reasonToHang_56 (by decide) ?_
          have e9 : 4 = (pX7_reasonToHang u w a1 a2) := by simp only [pX7_reasonToHang, if_neg c_1, if_pos c_2, if_pos c_3, if_neg c_4]
          exact W.iret (v := 4) hx hb hr (fun t ht hW => ⟨_, rfl, e9, ht⟩) (fun _ h => absurd h List.not_mem_nil) dX7_reasonToHang_57
      · refine lv_iconst (v := 3) hx hb dX7_reasonToHang_41 (by decide) ?_
        have e9 : 3 = (pX7_reasonToHang u w a1 a2) := by simp only [pX7_reasonToHang, if_neg c_1, if_pos c_2, if_neg c_3]
        exact W.iret (v := 3) hx hb hr (fun t ht hW => ⟨_, rfl, e9, ht⟩) (fun _ h => absurd h List.not_mem_nil) dX7_reasonToHang_42
    · refine lv_iconst (v := 2) hx hb dX7_reasonToHang_19 (by decide) ?_
      have e9 : 2 = (pX7_reasonToHang u w a1 a2) := by simp only [pX7_reasonToHang, if_neg c_1, if_neg c_2]
      exact W.iret (v := 2) hx hb hr (fun t ht hW => ⟨_, rfl, e9, ht⟩) (fun _ h => absurd h List.not_mem_nil) dX7_reasonToHang_20
  · refine lv_iconst (v := 1) hx hb dX7_reasonToHang_9 (by decide) ?_
    have e9 : 1 = (pX7_reasonToHang u w a1 a2) := by simp only [pX7_reasonToHang, if_pos c_1]
    exact W.iret (v := 1) hx hb hr (fun t ht hW => ⟨_, rfl, e9, ht⟩) (fun _ h => absurd h List.not_mem_nil) dX7_reasonToHang_10
theorem bV_X7_reasonToHang : BV RX7 yX7_reasonToHang cX7_reasonToHang 3 (some .int) 2 := ⟨wcd_X7_reasonToHang, wim_X7_reasonToHang, wse_X7_reasonToHang, win_RX7, by decide +kernel⟩
def pX7_reasonToWalk (u : (Nat → Nat → Int32)) (w : (Nat → Int32)) (a1 : Int32) (a2 : Int32) (a3 : Int32) : Int32 := (if (pX7_of u w a2 0) = 0 then 1 else (if (pX7_ofOwner u w a1 0) ≤ (pX7_of u w a2 0) then (if (pX7_hasLine u w a2) = 0 then (if (pX7_isIn (pX7_ofOwner u w a1 1) (pX7_otherOf a2 a3)) = 0 then 3 else 0) else (if (pX7_of u w a2 1) = (a1 + (1 : Int32)) then (if (pX7_isIn (pX7_ofOwner u w a1 1) (pX7_otherOf a2 a3)) = 0 then 3 else 0) else 9)) else 8))
set_option maxHeartbeats 4000000 in
set_option maxRecDepth 100000 in
theorem kX7_reasonToWalk (l : Launch) (D : va_G) (cyC cyI cyO : ClassId) (A : Nat → Nat) (u : (Nat → Nat → Int32)) (w : (Nat → Int32)) (a1 : Int32) (a2 : Int32) (a3 : Int32) (ho : vp_in a1 4) (hg : vp_in a2 28) : RO l yX7_reasonToWalk (Ty yX7_reasonToWalk cX7_reasonToWalk 4 (some .int)) ({ frames := 2, cells := 0, slots := 0, locals := 43 } : Room) D cyC cyI cyO (wM cyI A u w) [.ref (A 0), .int a1, .int a2, .int a3] (pX7_reasonToWalk u w a1 a2 a3) := by
  refine Met.ofW (cc := cX7_reasonToWalk) (maxL := 4) (ret := (some .int)) (by decide) rfl ?_
  intro p e s m args below meth cd s₁ B hml hv
  obtain ⟨rfl, hP, hK⟩ := hv
  have hx := B.exec
  have hb := B.bytes
  have hr := B.returns
  have hts : ∀ w ∈ TB, w.before ([.ref (A 0), .int a1, .int a2, .int a3] : List Value).toArray s = true := fun w h => atoms_spec (ws := (Ty yX7_reasonToWalk cX7_reasonToWalk 4 (some .int))) B.pre w (List.mem_cons_of_mem _ h)
  have hown : s.vm.findClass RX7 = some m.cls := findClass_of_methodNamed B.named
  have hlocks := B.notSynchronized
  have hl := lv_entry ([.ref (A 0), .int a1, .int a2, .int a3]) (n := 4) (Nat.le_of_ble_eq_true rfl)
  rw [lg_entry_eq]
  generalize (lg_sl ([.ref (A 0), .int a1, .int a2, .int a3]) ++ List.replicate (4 - (lg_sl ([.ref (A 0), .int a1, .int a2, .int a3])).length) Slot.unset).toArray = ls at hl ⊢
  have hl : lv_has ls 4 [(0, .ref (A 0)), (1, .int a1), (2, .int a2), (3, .int a3)] := hl
  refine lv_aload_n hx hb dX7_reasonToWalk_0 rfl (lv_at hl 0 rfl) ?_
  refine lv_iload_n hx hb dX7_reasonToWalk_1 rfl (lv_at hl 2 rfl) ?_
  refine lv_iconst (v := 0) hx hb dX7_reasonToWalk_2 (by decide) ?_
  refine rV (As := [.int a2, .int 0]) (rest := []) hx hb hml hown hts hl.1 (kX7_of l D cyC cyI cyO A u w a2 0 hg (vp_lit (by decide))) bV_X7_of  wml_RX7_52 ⟨rfl, rfl⟩ ⟨Nat.le_of_ble_eq_true rfl, Nat.le_of_ble_eq_true rfl, Nat.zero_le _, Nat.zero_le _⟩ [0, 1, 2, 3, 4, 5, 6] rfl hP hK 0 rfl rfl rfl rfl rfl (Nat.le_of_ble_eq_true rfl) dX7_reasonToWalk_3 ?_
  refine lv_if_ne (tgt := 11) hx hb dX7_reasonToWalk_6 (by decide) (fun c_1 => ?_) (fun c_1 => ?_)
  · refine lv_aload_n hx hb dX7_reasonToWalk_11 rfl (lv_at hl 0 rfl) ?_
    refine lv_iload_n hx hb dX7_reasonToWalk_12 rfl (lv_at hl 2 rfl) ?_
    refine lv_iconst (v := 0) hx hb dX7_reasonToWalk_13 (by decide) ?_
    refine rV (As := [.int a2, .int 0]) (rest := []) hx hb hml hown hts hl.1 (kX7_of l D cyC cyI cyO A u w a2 0 hg (vp_lit (by decide))) bV_X7_of  wml_RX7_52 ⟨rfl, rfl⟩ ⟨Nat.le_of_ble_eq_true rfl, Nat.le_of_ble_eq_true rfl, Nat.zero_le _, Nat.zero_le _⟩ [0, 1, 2, 3, 4, 5, 6] rfl hP hK 0 rfl rfl rfl rfl rfl (Nat.le_of_ble_eq_true rfl) dX7_reasonToWalk_14 ?_
    refine lv_aload_n hx hb dX7_reasonToWalk_17 rfl (lv_at hl 0 rfl) ?_
    refine lv_iload_n hx hb dX7_reasonToWalk_18 rfl (lv_at hl 1 rfl) ?_
    refine lv_iconst (v := 0) hx hb dX7_reasonToWalk_19 (by decide) ?_
    refine rV (As := [.int a1, .int 0]) (rest := [.int (pX7_of u w a2 0)]) hx hb hml hown hts hl.1 (kX7_ofOwner l D cyC cyI cyO A u w a1 0 ho (vp_lit (by decide))) bV_X7_ofOwner  wml_RX7_72 ⟨rfl, rfl⟩ ⟨Nat.le_of_ble_eq_true rfl, Nat.le_of_ble_eq_true rfl, Nat.zero_le _, Nat.zero_le _⟩ [0, 1, 2, 3, 4, 5, 6] rfl hP hK 0 rfl rfl rfl rfl rfl (Nat.le_of_ble_eq_true rfl) dX7_reasonToWalk_20 ?_
    refine lv_icmp_ge (tgt := 29) hx hb dX7_reasonToWalk_23 (by decide) (fun c_2 => ?_) (fun c_2 => ?_)
    · refine lv_aload_n hx hb dX7_reasonToWalk_29 rfl (lv_at hl 0 rfl) ?_
      refine lv_iload_n hx hb dX7_reasonToWalk_30 rfl (lv_at hl 2 rfl) ?_
      refine rV (As := [.int a2]) (rest := []) hx hb hml hown hts hl.1 (kX7_hasLine l D cyC cyI cyO A u w a2 hg) bV_X7_hasLine  wml_RX7_56 ⟨rfl, rfl⟩ ⟨Nat.le_of_ble_eq_true rfl, Nat.le_of_ble_eq_true rfl, Nat.zero_le _, Nat.zero_le _⟩ [0, 1, 2, 3, 4, 5, 6] rfl hP hK 0 rfl rfl rfl rfl rfl (Nat.le_of_ble_eq_true rfl) dX7_reasonToWalk_31 ?_
      refine lv_if_eq (tgt := 52) hx hb dX7_reasonToWalk_34 (by decide) (fun c_3 => ?_) (fun c_3 => ?_)
      · refine lv_aload_n hx hb dX7_reasonToWalk_52 rfl (lv_at hl 0 rfl) ?_
        refine lv_iload_n hx hb dX7_reasonToWalk_53 rfl (lv_at hl 1 rfl) ?_
        refine lv_iconst (v := 1) hx hb dX7_reasonToWalk_54 (by decide) ?_
        refine rV (As := [.int a1, .int 1]) (rest := []) hx hb hml hown hts hl.1 (kX7_ofOwner l D cyC cyI cyO A u w a1 1 ho (vp_lit (by decide))) bV_X7_ofOwner  wml_RX7_72 ⟨rfl, rfl⟩ ⟨Nat.le_of_ble_eq_true rfl, Nat.le_of_ble_eq_true rfl, Nat.zero_le _, Nat.zero_le _⟩ [0, 1, 2, 3, 4, 5, 6] rfl hP hK 0 rfl rfl rfl rfl rfl (Nat.le_of_ble_eq_true rfl) dX7_reasonToWalk_55 ?_
        refine lv_iload_n hx hb dX7_reasonToWalk_58 rfl (lv_at hl 2 rfl) ?_
        refine lv_iload_n hx hb dX7_reasonToWalk_59 rfl (lv_at hl 3 rfl) ?_
        refine rS (As := [.int a2, .int a3]) (rest := [.int (pX7_ofOwner u w a1 1)]) hx hb hml hown hts hl.1 (kX7_otherOf l D cyC cyI cyO a2 a3) bS_X7_otherOf  wml_RX7_85 ⟨rfl, rfl⟩ ⟨Nat.le_of_ble_eq_true rfl, Nat.le_of_ble_eq_true rfl, Nat.zero_le _, Nat.zero_le _⟩ [] rfl hP hK rfl rfl (Nat.le_of_ble_eq_true rfl) dX7_reasonToWalk_60 ?_
        refine rS (As := [.int (pX7_ofOwner u w a1 1), .int (pX7_otherOf a2 a3)]) (rest := []) hx hb hml hown hts hl.1 (kX7_isIn l D cyC cyI cyO (pX7_ofOwner u w a1 1) (pX7_otherOf a2 a3)) bS_X7_isIn  wml_RX7_62 ⟨rfl, rfl⟩ ⟨Nat.le_of_ble_eq_true rfl, Nat.le_of_ble_eq_true rfl, Nat.zero_le _, Nat.zero_le _⟩ [] rfl hP hK rfl rfl (Nat.le_of_ble_eq_true rfl) dX7_reasonToWalk_63 ?_
        refine lv_if_eq (tgt := 73) hx hb dX7_reasonToWalk_66 (by decide) (fun c_4 => ?_) (fun c_4 => ?_)
        · refine lv_iconst (v := 3) hx hb dX7_reasonToWalk_73 (by decide) ?_
          have e9 : 3 = (pX7_reasonToWalk u w a1 a2 a3) := by simp only [pX7_reasonToWalk, if_neg c_1, if_pos c_2, if_pos c_3, if_pos c_4]
          exact W.iret (v := 3) hx hb hr (fun t ht hW => ⟨_, rfl, e9, ht⟩) (fun _ h => absurd h List.not_mem_nil) dX7_reasonToWalk_74
        · refine lv_iconst (v := 0) hx hb dX7_reasonToWalk_69 (by decide) ?_
          refine lv_goto (tgt := 74) hx hb dX7_reasonToWalk_70 (by decide) ?_
          have e9 : 0 = (pX7_reasonToWalk u w a1 a2 a3) := by simp only [pX7_reasonToWalk, if_neg c_1, if_pos c_2, if_pos c_3, if_neg c_4]
          exact W.iret (v := 0) hx hb hr (fun t ht hW => ⟨_, rfl, e9, ht⟩) (fun _ h => absurd h List.not_mem_nil) dX7_reasonToWalk_74
      · refine lv_aload_n hx hb dX7_reasonToWalk_37 rfl (lv_at hl 0 rfl) ?_
        refine lv_iload_n hx hb dX7_reasonToWalk_38 rfl (lv_at hl 2 rfl) ?_
        refine lv_iconst (v := 1) hx hb dX7_reasonToWalk_39 (by decide) ?_
        refine rV (As := [.int a2, .int 1]) (rest := []) hx hb hml hown hts hl.1 (kX7_of l D cyC cyI cyO A u w a2 1 hg (vp_lit (by decide))) bV_X7_of  wml_RX7_52 ⟨rfl, rfl⟩ ⟨Nat.le_of_ble_eq_true rfl, Nat.le_of_ble_eq_true rfl, Nat.zero_le _, Nat.zero_le _⟩ [0, 1, 2, 3, 4, 5, 6] rfl hP hK 0 rfl rfl rfl rfl rfl (Nat.le_of_ble_eq_true rfl) dX7_reasonToWalk_40 ?_
        refine lv_iload_n hx hb dX7_reasonToWalk_43 rfl (lv_at hl 1 rfl) ?_
        refine lv_iconst (v := 1) hx hb dX7_reasonToWalk_44 (by decide) ?_
        refine lv_iadd hx hb dX7_reasonToWalk_45 ?_
        refine lv_icmp_eq (tgt := 52) hx hb dX7_reasonToWalk_46 (by decide) (fun c_5 => ?_) (fun c_5 => ?_)
        · refine lv_aload_n hx hb dX7_reasonToWalk_52 rfl (lv_at hl 0 rfl) ?_
          refine lv_iload_n hx hb dX7_reasonToWalk_53 rfl (lv_at hl 1 rfl) ?_
          refine lv_iconst (v := 1) hx hb dX7_reasonToWalk_54 (by decide) ?_
          refine rV (As := [.int a1, .int 1]) (rest := []) hx hb hml hown hts hl.1 (kX7_ofOwner l D cyC cyI cyO A u w a1 1 ho (vp_lit (by decide))) bV_X7_ofOwner  wml_RX7_72 ⟨rfl, rfl⟩ ⟨Nat.le_of_ble_eq_true rfl, Nat.le_of_ble_eq_true rfl, Nat.zero_le _, Nat.zero_le _⟩ [0, 1, 2, 3, 4, 5, 6] rfl hP hK 0 rfl rfl rfl rfl rfl (Nat.le_of_ble_eq_true rfl) dX7_reasonToWalk_55 ?_
          refine lv_iload_n hx hb dX7_reasonToWalk_58 rfl (lv_at hl 2 rfl) ?_
          refine lv_iload_n hx hb dX7_reasonToWalk_59 rfl (lv_at hl 3 rfl) ?_
          refine rS (As := [.int a2, .int a3]) (rest := [.int (pX7_ofOwner u w a1 1)]) hx hb hml hown hts hl.1 (kX7_otherOf l D cyC cyI cyO a2 a3) bS_X7_otherOf  wml_RX7_85 ⟨rfl, rfl⟩ ⟨Nat.le_of_ble_eq_true rfl, Nat.le_of_ble_eq_true rfl, Nat.zero_le _, Nat.zero_le _⟩ [] rfl hP hK rfl rfl (Nat.le_of_ble_eq_true rfl) dX7_reasonToWalk_60 ?_
          refine rS (As := [.int (pX7_ofOwner u w a1 1), .int (pX7_otherOf a2 a3)]) (rest := []) hx hb hml hown hts hl.1 (kX7_isIn l D cyC cyI cyO (pX7_ofOwner u w a1 1) (pX7_otherOf a2 a3)) bS_X7_isIn  wml_RX7_62 ⟨rfl, rfl⟩ ⟨Nat.le_of_ble_eq_true rfl, Nat.le_of_ble_eq_true rfl, Nat.zero_le _, Nat.zero_le _⟩ [] rfl hP hK rfl rfl (Nat.le_of_ble_eq_true rfl) dX7_reasonToWalk_63 ?_
          refine lv_if_eq (tgt := 73) hx hb dX7_reasonToWalk_66 (by decide) (fun c_6 => ?_) (fun c_6 => ?_)
          · refine lv_iconst (v := 3) hx hb dX7_reasonToWalk_73 (by decide) ?_
            have e9 : 3 = (pX7_reasonToWalk u w a1 a2 a3) := by simp only [pX7_reasonToWalk, if_neg c_1, if_pos c_2, if_neg c_3, if_pos c_5, if_pos c_6]
            exact W.iret (v := 3) hx hb hr (fun t ht hW => ⟨_, rfl, e9, ht⟩) (fun _ h => absurd h List.not_mem_nil) dX7_reasonToWalk_74
          · refine lv_iconst (v := 0) hx hb dX7_reasonToWalk_69 (by decide) ?_
            refine lv_goto (tgt := 74) hx hb dX7_reasonToWalk_70 (by decide) ?_
            have e9 : 0 = (pX7_reasonToWalk u w a1 a2 a3) := by simp only [pX7_reasonToWalk, if_neg c_1, if_pos c_2, if_neg c_3, if_pos c_5, if_neg c_6]
            exact W.iret (v := 0) hx hb hr (fun t ht hW => ⟨_, rfl, e9, ht⟩) (fun _ h => absurd h List.not_mem_nil) dX7_reasonToWalk_74
        · refine lv_bipush (v := 9) hx hb dX7_reasonToWalk_49 (by decide) ?_
          have e9 : 9 = (pX7_reasonToWalk u w a1 a2 a3) := by simp only [pX7_reasonToWalk, if_neg c_1, if_pos c_2, if_neg c_3, if_neg c_5]
          exact W.iret (v := 9) hx hb hr (fun t ht hW => ⟨_, rfl, e9, ht⟩) (fun _ h => absurd h List.not_mem_nil) dX7_reasonToWalk_51
    · refine lv_bipush (v := 8) hx hb dX7_reasonToWalk_26 (by decide) ?_
      have e9 : 8 = (pX7_reasonToWalk u w a1 a2 a3) := by simp only [pX7_reasonToWalk, if_neg c_1, if_neg c_2]
      exact W.iret (v := 8) hx hb hr (fun t ht hW => ⟨_, rfl, e9, ht⟩) (fun _ h => absurd h List.not_mem_nil) dX7_reasonToWalk_28
  · refine lv_iconst (v := 1) hx hb dX7_reasonToWalk_9 (by decide) ?_
    have e9 : 1 = (pX7_reasonToWalk u w a1 a2 a3) := by simp only [pX7_reasonToWalk, if_pos c_1]
    exact W.iret (v := 1) hx hb hr (fun t ht hW => ⟨_, rfl, e9, ht⟩) (fun _ h => absurd h List.not_mem_nil) dX7_reasonToWalk_10
theorem bV_X7_reasonToWalk : BV RX7 yX7_reasonToWalk cX7_reasonToWalk 4 (some .int) 3 := ⟨wcd_X7_reasonToWalk, wim_X7_reasonToWalk, wse_X7_reasonToWalk, win_RX7, by decide +kernel⟩
def pX7_linesNow_L4 (u : (Nat → Nat → Int32)) (w : (Nat → Int32)) : Nat → Int32 := fo (fun i x_i => (if (pX7_hasLine u w (nI i)) = 0 then (x_i + (0 : Int32)) else (x_i + (1 : Int32)))) 0
theorem pX7_linesNow_L4_s (u : (Nat → Nat → Int32)) (w : (Nat → Int32)) (i : Nat) : pX7_linesNow_L4 u w (i + 1) = (if (pX7_hasLine u w (nI i)) = 0 then ((pX7_linesNow_L4 u w i) + (0 : Int32)) else ((pX7_linesNow_L4 u w i) + (1 : Int32))) := rfl
theorem pX7_linesNow_L4_0 (u : (Nat → Nat → Int32)) (w : (Nat → Int32)) : pX7_linesNow_L4 u w 0 = 0 := rfl
def pX7_linesNow (u : (Nat → Nat → Int32)) (w : (Nat → Int32)) : Int32 := (pX7_linesNow_L4 u w 28)
set_option maxHeartbeats 4000000 in
set_option maxRecDepth 100000 in
theorem kX7_linesNow (l : Launch) (D : va_G) (cyC cyI cyO : ClassId) (A : Nat → Nat) (u : (Nat → Nat → Int32)) (w : (Nat → Int32)) : RO l yX7_linesNow (Ty yX7_linesNow cX7_linesNow 3 (some .int)) ({ frames := 2, cells := 0, slots := 0, locals := 43 } : Room) D cyC cyI cyO (wM cyI A u w) [.ref (A 0)] (pX7_linesNow u w) := by
  refine Met.ofW (cc := cX7_linesNow) (maxL := 3) (ret := (some .int)) (by decide) rfl ?_
  intro p e s m args below meth cd s₁ B hml hv
  obtain ⟨rfl, hP, hK⟩ := hv
  have hx := B.exec
  have hb := B.bytes
  have hr := B.returns
  have hts : ∀ w ∈ TB, w.before ([.ref (A 0)] : List Value).toArray s = true := fun w h => atoms_spec (ws := (Ty yX7_linesNow cX7_linesNow 3 (some .int))) B.pre w (List.mem_cons_of_mem _ h)
  have hown : s.vm.findClass RX7 = some m.cls := findClass_of_methodNamed B.named
  have hlocks := B.notSynchronized
  have hl := lv_entry ([.ref (A 0)]) (n := 3) (Nat.le_of_ble_eq_true rfl)
  rw [lg_entry_eq]
  generalize (lg_sl ([.ref (A 0)]) ++ List.replicate (3 - (lg_sl ([.ref (A 0)])).length) Slot.unset).toArray = ls at hl ⊢
  have hl : lv_has ls 3 [(0, .ref (A 0))] := hl
  refine lv_iconst (v := 0) hx hb dX7_linesNow_0 (by decide) ?_
  refine lv_istore_n (lv' := [(1, .int 0), (0, .ref (A 0))]) hx hb dX7_linesNow_1 rfl hl (by decide) rfl (fun ls hl => ?_)
  refine lv_iconst (v := 0) hx hb dX7_linesNow_2 (by decide) ?_
  refine lv_istore_n (lv' := [(2, .int 0), (1, .int 0), (0, .ref (A 0))]) hx hb dX7_linesNow_3 rfl hl (by decide) rfl (fun ls hl => ?_)
  have key_4 : ∀ k i : Nat, i + k = 28 → ∀ (ls : Array Slot), lv_has ls 3 [(0, .ref (A 0)), (1, .int (pX7_linesNow_L4 u w i)), (2, .int (nI i))] → W p l e (headSpec (Ty yX7_linesNow cX7_linesNow 3 (some .int)) ({ frames := 2, cells := 0, slots := 0, locals := 43 } : Room)).room s m ([.ref (A 0)] : List Value).toArray below meth cd s.heap [] 0 0 (MQ below (vp_Si (fun x => x = (pX7_linesNow u w))) ([.ref (A 0)] : List Value).toArray s 0 0 (fun _ => False)) (F0 m 4 ls []) := by
    intro k
    induction k with
    | zero =>
      intro i hi ls hl
      obtain rfl : i = 28 := hi
      obtain ⟨z_1, hz_1⟩ : ∃ q, q = (pX7_linesNow_L4 u w 28) := ⟨_, rfl⟩
      rw [← hz_1] at hl
      refine lv_iload_n hx hb dX7_linesNow_4 rfl (lv_at hl 2 rfl) ?_
      refine lv_bipush (v := 28) hx hb dX7_linesNow_5 (by decide) ?_
      refine lv_icmp_ge (tgt := 32) hx hb dX7_linesNow_7 (by decide) (fun c_2 => ?_) (fun c_2 => absurd (le_of (C := 28) (N := 28) (by decide)) c_2)
      refine lv_iload_n hx hb dX7_linesNow_32 rfl (lv_at hl 1 rfl) ?_
      have e9 : z_1 = (pX7_linesNow u w) := by simp only [pX7_linesNow, ← hz_1]
      exact W.iret (v := z_1) hx hb hr (fun t ht hW => ⟨_, rfl, e9, ht⟩) (fun _ h => absurd h List.not_mem_nil) dX7_linesNow_33
    | succ k ih_4 =>
      intro i hi ls hl
      have hlt : i < 28 := by omega
      refine lv_iload_n hx hb dX7_linesNow_4 rfl (lv_at hl 2 rfl) ?_
      refine lv_bipush (v := 28) hx hb dX7_linesNow_5 (by decide) ?_
      refine lv_icmp_ge (tgt := 32) hx hb dX7_linesNow_7 (by decide) (fun c_3 => absurd c_3 (nle_of (C := 28) (N := 28) (by decide) hlt (by decide))) (fun c_3 => ?_)
      refine lv_iload_n hx hb dX7_linesNow_10 rfl (lv_at hl 1 rfl) ?_
      refine lv_aload_n hx hb dX7_linesNow_11 rfl (lv_at hl 0 rfl) ?_
      refine lv_iload_n hx hb dX7_linesNow_12 rfl (lv_at hl 2 rfl) ?_
      refine rV (As := [.int (nI i)]) (rest := [.int (pX7_linesNow_L4 u w i)]) hx hb hml hown hts hl.1 (kX7_hasLine l D cyC cyI cyO A u w (nI i) (vp_in_nI (Nat.lt_of_lt_of_le hlt (by decide)) (by decide))) bV_X7_hasLine  wml_RX7_56 ⟨rfl, rfl⟩ ⟨Nat.le_of_ble_eq_true rfl, Nat.le_of_ble_eq_true rfl, Nat.zero_le _, Nat.zero_le _⟩ [0, 1, 2, 3, 4, 5, 6] rfl hP hK 0 rfl rfl rfl rfl rfl (Nat.le_of_ble_eq_true rfl) dX7_linesNow_13 ?_
      refine lv_if_eq (tgt := 23) hx hb dX7_linesNow_16 (by decide) (fun c_4 => ?_) (fun c_4 => ?_)
      · refine lv_iconst (v := 0) hx hb dX7_linesNow_23 (by decide) ?_
        refine lv_iadd hx hb dX7_linesNow_24 ?_
        refine lv_istore_n (lv' := [(1, .int ((pX7_linesNow_L4 u w i) + (0 : Int32))), (0, .ref (A 0)), (2, .int (nI i))]) hx hb dX7_linesNow_25 rfl hl (by decide) rfl (fun ls hl => ?_)
        refine lv_iinc (v := (nI (i + 1))) (lv' := [(2, .int (nI (i + 1))), (1, .int ((pX7_linesNow_L4 u w i) + (0 : Int32))), (0, .ref (A 0))]) hx hb dX7_linesNow_26 hl (k := 2) rfl (nI_succ i).symm (by decide) rfl (fun ls hl => ?_)
        refine lv_goto (tgt := 4) hx hb dX7_linesNow_29 (by decide) ?_
        have e8 : pX7_linesNow_L4 u w (i + 1) = ((pX7_linesNow_L4 u w i) + (0 : Int32)) := by rw [pX7_linesNow_L4_s] <;> simp only [if_pos c_4]
        exact ih_4 (i + 1) (by omega) ls (by rw [e8]; exact lv_sub hl [2, 1, 0] rfl)
      · refine lv_iconst (v := 1) hx hb dX7_linesNow_19 (by decide) ?_
        refine lv_goto (tgt := 24) hx hb dX7_linesNow_20 (by decide) ?_
        refine lv_iadd hx hb dX7_linesNow_24 ?_
        refine lv_istore_n (lv' := [(1, .int ((pX7_linesNow_L4 u w i) + (1 : Int32))), (0, .ref (A 0)), (2, .int (nI i))]) hx hb dX7_linesNow_25 rfl hl (by decide) rfl (fun ls hl => ?_)
        refine lv_iinc (v := (nI (i + 1))) (lv' := [(2, .int (nI (i + 1))), (1, .int ((pX7_linesNow_L4 u w i) + (1 : Int32))), (0, .ref (A 0))]) hx hb dX7_linesNow_26 hl (k := 2) rfl (nI_succ i).symm (by decide) rfl (fun ls hl => ?_)
        refine lv_goto (tgt := 4) hx hb dX7_linesNow_29 (by decide) ?_
        have e8 : pX7_linesNow_L4 u w (i + 1) = ((pX7_linesNow_L4 u w i) + (1 : Int32)) := by rw [pX7_linesNow_L4_s] <;> simp only [if_neg c_4]
        exact ih_4 (i + 1) (by omega) ls (by rw [e8]; exact lv_sub hl [2, 1, 0] rfl)
  exact key_4 28 0 (Nat.zero_add 28) ls (lv_sub hl [2, 1, 0] rfl)
theorem bV_X7_linesNow : BV RX7 yX7_linesNow cX7_linesNow 3 (some .int) 0 := ⟨wcd_X7_linesNow, wim_X7_linesNow, wse_X7_linesNow, win_RX7, by decide +kernel⟩
def pX7_cleanNow_L4 (u : (Nat → Nat → Int32)) (w : (Nat → Int32)) : Nat → Int32 := fo (fun i x_i => (if (pX7_isClean u w (nI i)) = 0 then (x_i + (0 : Int32)) else (x_i + (1 : Int32)))) 0
theorem pX7_cleanNow_L4_s (u : (Nat → Nat → Int32)) (w : (Nat → Int32)) (i : Nat) : pX7_cleanNow_L4 u w (i + 1) = (if (pX7_isClean u w (nI i)) = 0 then ((pX7_cleanNow_L4 u w i) + (0 : Int32)) else ((pX7_cleanNow_L4 u w i) + (1 : Int32))) := rfl
theorem pX7_cleanNow_L4_0 (u : (Nat → Nat → Int32)) (w : (Nat → Int32)) : pX7_cleanNow_L4 u w 0 = 0 := rfl
def pX7_cleanNow (u : (Nat → Nat → Int32)) (w : (Nat → Int32)) : Int32 := (pX7_cleanNow_L4 u w 28)
set_option maxHeartbeats 4000000 in
set_option maxRecDepth 100000 in
theorem kX7_cleanNow (l : Launch) (D : va_G) (cyC cyI cyO : ClassId) (A : Nat → Nat) (u : (Nat → Nat → Int32)) (w : (Nat → Int32)) : RO l yX7_cleanNow (Ty yX7_cleanNow cX7_cleanNow 3 (some .int)) ({ frames := 3, cells := 0, slots := 0, locals := 64 } : Room) D cyC cyI cyO (wM cyI A u w) [.ref (A 0)] (pX7_cleanNow u w) := by
  refine Met.ofW (cc := cX7_cleanNow) (maxL := 3) (ret := (some .int)) (by decide) rfl ?_
  intro p e s m args below meth cd s₁ B hml hv
  obtain ⟨rfl, hP, hK⟩ := hv
  have hx := B.exec
  have hb := B.bytes
  have hr := B.returns
  have hts : ∀ w ∈ TB, w.before ([.ref (A 0)] : List Value).toArray s = true := fun w h => atoms_spec (ws := (Ty yX7_cleanNow cX7_cleanNow 3 (some .int))) B.pre w (List.mem_cons_of_mem _ h)
  have hown : s.vm.findClass RX7 = some m.cls := findClass_of_methodNamed B.named
  have hlocks := B.notSynchronized
  have hl := lv_entry ([.ref (A 0)]) (n := 3) (Nat.le_of_ble_eq_true rfl)
  rw [lg_entry_eq]
  generalize (lg_sl ([.ref (A 0)]) ++ List.replicate (3 - (lg_sl ([.ref (A 0)])).length) Slot.unset).toArray = ls at hl ⊢
  have hl : lv_has ls 3 [(0, .ref (A 0))] := hl
  refine lv_iconst (v := 0) hx hb dX7_cleanNow_0 (by decide) ?_
  refine lv_istore_n (lv' := [(1, .int 0), (0, .ref (A 0))]) hx hb dX7_cleanNow_1 rfl hl (by decide) rfl (fun ls hl => ?_)
  refine lv_iconst (v := 0) hx hb dX7_cleanNow_2 (by decide) ?_
  refine lv_istore_n (lv' := [(2, .int 0), (1, .int 0), (0, .ref (A 0))]) hx hb dX7_cleanNow_3 rfl hl (by decide) rfl (fun ls hl => ?_)
  have key_4 : ∀ k i : Nat, i + k = 28 → ∀ (ls : Array Slot), lv_has ls 3 [(0, .ref (A 0)), (1, .int (pX7_cleanNow_L4 u w i)), (2, .int (nI i))] → W p l e (headSpec (Ty yX7_cleanNow cX7_cleanNow 3 (some .int)) ({ frames := 3, cells := 0, slots := 0, locals := 64 } : Room)).room s m ([.ref (A 0)] : List Value).toArray below meth cd s.heap [] 0 0 (MQ below (vp_Si (fun x => x = (pX7_cleanNow u w))) ([.ref (A 0)] : List Value).toArray s 0 0 (fun _ => False)) (F0 m 4 ls []) := by
    intro k
    induction k with
    | zero =>
      intro i hi ls hl
      obtain rfl : i = 28 := hi
      obtain ⟨z_1, hz_1⟩ : ∃ q, q = (pX7_cleanNow_L4 u w 28) := ⟨_, rfl⟩
      rw [← hz_1] at hl
      refine lv_iload_n hx hb dX7_cleanNow_4 rfl (lv_at hl 2 rfl) ?_
      refine lv_bipush (v := 28) hx hb dX7_cleanNow_5 (by decide) ?_
      refine lv_icmp_ge (tgt := 32) hx hb dX7_cleanNow_7 (by decide) (fun c_2 => ?_) (fun c_2 => absurd (le_of (C := 28) (N := 28) (by decide)) c_2)
      refine lv_iload_n hx hb dX7_cleanNow_32 rfl (lv_at hl 1 rfl) ?_
      have e9 : z_1 = (pX7_cleanNow u w) := by simp only [pX7_cleanNow, ← hz_1]
      exact W.iret (v := z_1) hx hb hr (fun t ht hW => ⟨_, rfl, e9, ht⟩) (fun _ h => absurd h List.not_mem_nil) dX7_cleanNow_33
    | succ k ih_4 =>
      intro i hi ls hl
      have hlt : i < 28 := by omega
      refine lv_iload_n hx hb dX7_cleanNow_4 rfl (lv_at hl 2 rfl) ?_
      refine lv_bipush (v := 28) hx hb dX7_cleanNow_5 (by decide) ?_
      refine lv_icmp_ge (tgt := 32) hx hb dX7_cleanNow_7 (by decide) (fun c_3 => absurd c_3 (nle_of (C := 28) (N := 28) (by decide) hlt (by decide))) (fun c_3 => ?_)
      refine lv_iload_n hx hb dX7_cleanNow_10 rfl (lv_at hl 1 rfl) ?_
      refine lv_aload_n hx hb dX7_cleanNow_11 rfl (lv_at hl 0 rfl) ?_
      refine lv_iload_n hx hb dX7_cleanNow_12 rfl (lv_at hl 2 rfl) ?_
      refine rV (As := [.int (nI i)]) (rest := [.int (pX7_cleanNow_L4 u w i)]) hx hb hml hown hts hl.1 (kX7_isClean l D cyC cyI cyO A u w (nI i) (vp_in_nI (Nat.lt_of_lt_of_le hlt (by decide)) (by decide))) bV_X7_isClean  wml_RX7_88 ⟨rfl, rfl⟩ ⟨Nat.le_of_ble_eq_true rfl, Nat.le_of_ble_eq_true rfl, Nat.zero_le _, Nat.zero_le _⟩ [0, 1, 2, 3, 4, 5, 6] rfl hP hK 0 rfl rfl rfl rfl rfl (Nat.le_of_ble_eq_true rfl) dX7_cleanNow_13 ?_
      refine lv_if_eq (tgt := 23) hx hb dX7_cleanNow_16 (by decide) (fun c_4 => ?_) (fun c_4 => ?_)
      · refine lv_iconst (v := 0) hx hb dX7_cleanNow_23 (by decide) ?_
        refine lv_iadd hx hb dX7_cleanNow_24 ?_
        refine lv_istore_n (lv' := [(1, .int ((pX7_cleanNow_L4 u w i) + (0 : Int32))), (0, .ref (A 0)), (2, .int (nI i))]) hx hb dX7_cleanNow_25 rfl hl (by decide) rfl (fun ls hl => ?_)
        refine lv_iinc (v := (nI (i + 1))) (lv' := [(2, .int (nI (i + 1))), (1, .int ((pX7_cleanNow_L4 u w i) + (0 : Int32))), (0, .ref (A 0))]) hx hb dX7_cleanNow_26 hl (k := 2) rfl (nI_succ i).symm (by decide) rfl (fun ls hl => ?_)
        refine lv_goto (tgt := 4) hx hb dX7_cleanNow_29 (by decide) ?_
        have e8 : pX7_cleanNow_L4 u w (i + 1) = ((pX7_cleanNow_L4 u w i) + (0 : Int32)) := by rw [pX7_cleanNow_L4_s] <;> simp only [if_pos c_4]
        exact ih_4 (i + 1) (by omega) ls (by rw [e8]; exact lv_sub hl [2, 1, 0] rfl)
      · refine lv_iconst (v := 1) hx hb dX7_cleanNow_19 (by decide) ?_
        refine lv_goto (tgt := 24) hx hb dX7_cleanNow_20 (by decide) ?_
        refine lv_iadd hx hb dX7_cleanNow_24 ?_
        refine lv_istore_n (lv' := [(1, .int ((pX7_cleanNow_L4 u w i) + (1 : Int32))), (0, .ref (A 0)), (2, .int (nI i))]) hx hb dX7_cleanNow_25 rfl hl (by decide) rfl (fun ls hl => ?_)
        refine lv_iinc (v := (nI (i + 1))) (lv' := [(2, .int (nI (i + 1))), (1, .int ((pX7_cleanNow_L4 u w i) + (1 : Int32))), (0, .ref (A 0))]) hx hb dX7_cleanNow_26 hl (k := 2) rfl (nI_succ i).symm (by decide) rfl (fun ls hl => ?_)
        refine lv_goto (tgt := 4) hx hb dX7_cleanNow_29 (by decide) ?_
        have e8 : pX7_cleanNow_L4 u w (i + 1) = ((pX7_cleanNow_L4 u w i) + (1 : Int32)) := by rw [pX7_cleanNow_L4_s] <;> simp only [if_neg c_4]
        exact ih_4 (i + 1) (by omega) ls (by rw [e8]; exact lv_sub hl [2, 1, 0] rfl)
  exact key_4 28 0 (Nat.zero_add 28) ls (lv_sub hl [2, 1, 0] rfl)
theorem bV_X7_cleanNow : BV RX7 yX7_cleanNow cX7_cleanNow 3 (some .int) 0 := ⟨wcd_X7_cleanNow, wim_X7_cleanNow, wse_X7_cleanNow, win_RX7, by decide +kernel⟩
def pX7_chimneysOver_L4 (u : (Nat → Nat → Int32)) (w : (Nat → Int32)) (a1 : Int32) : Nat → Int32 := fo (fun i x_i => (if (pX7_isIn ((u 0) 8) (nI i)) = 0 then (x_i + (0 : Int32)) else (if (pX7_isIn (pX7_smokeOf u w (nI i) ((u 0) 1)) a1) = 0 then (x_i + (0 : Int32)) else (x_i + (1 : Int32))))) 0
theorem pX7_chimneysOver_L4_s (u : (Nat → Nat → Int32)) (w : (Nat → Int32)) (a1 : Int32) (i : Nat) : pX7_chimneysOver_L4 u w a1 (i + 1) = (if (pX7_isIn ((u 0) 8) (nI i)) = 0 then ((pX7_chimneysOver_L4 u w a1 i) + (0 : Int32)) else (if (pX7_isIn (pX7_smokeOf u w (nI i) ((u 0) 1)) a1) = 0 then ((pX7_chimneysOver_L4 u w a1 i) + (0 : Int32)) else ((pX7_chimneysOver_L4 u w a1 i) + (1 : Int32)))) := rfl
theorem pX7_chimneysOver_L4_0 (u : (Nat → Nat → Int32)) (w : (Nat → Int32)) (a1 : Int32) : pX7_chimneysOver_L4 u w a1 0 = 0 := rfl
def pX7_chimneysOver (u : (Nat → Nat → Int32)) (w : (Nat → Int32)) (a1 : Int32) : Int32 := (pX7_chimneysOver_L4 u w a1 16)
set_option maxHeartbeats 4000000 in
set_option maxRecDepth 100000 in
theorem kX7_chimneysOver (l : Launch) (D : va_G) (cyC cyI cyO : ClassId) (A : Nat → Nat) (u : (Nat → Nat → Int32)) (w : (Nat → Int32)) (a1 : Int32) (hm3 : ((u 0) 2) ≤ 3) : RO l yX7_chimneysOver (Ty yX7_chimneysOver cX7_chimneysOver 4 (some .int)) ({ frames := 2, cells := 0, slots := 0, locals := 48 } : Room) D cyC cyI cyO (wM cyI A u w) [.ref (A 0), .int a1] (pX7_chimneysOver u w a1) := by
  refine Met.ofW (cc := cX7_chimneysOver) (maxL := 4) (ret := (some .int)) (by decide) rfl ?_
  intro p e s m args below meth cd s₁ B hml hv
  obtain ⟨rfl, hP, hK⟩ := hv
  have hx := B.exec
  have hb := B.bytes
  have hr := B.returns
  have hts : ∀ w ∈ TB, w.before ([.ref (A 0), .int a1] : List Value).toArray s = true := fun w h => atoms_spec (ws := (Ty yX7_chimneysOver cX7_chimneysOver 4 (some .int))) B.pre w (List.mem_cons_of_mem _ h)
  have hown : s.vm.findClass RX7 = some m.cls := findClass_of_methodNamed B.named
  have hlocks := B.notSynchronized
  have hl := lv_entry ([.ref (A 0), .int a1]) (n := 4) (Nat.le_of_ble_eq_true rfl)
  rw [lg_entry_eq]
  generalize (lg_sl ([.ref (A 0), .int a1]) ++ List.replicate (4 - (lg_sl ([.ref (A 0), .int a1])).length) Slot.unset).toArray = ls at hl ⊢
  have hl : lv_has ls 4 [(0, .ref (A 0)), (1, .int a1)] := hl
  refine lv_iconst (v := 0) hx hb dX7_chimneysOver_0 (by decide) ?_
  refine lv_istore_n (lv' := [(2, .int 0), (0, .ref (A 0)), (1, .int a1)]) hx hb dX7_chimneysOver_1 rfl hl (by decide) rfl (fun ls hl => ?_)
  refine lv_iconst (v := 0) hx hb dX7_chimneysOver_2 (by decide) ?_
  refine lv_istore_n (lv' := [(3, .int 0), (2, .int 0), (0, .ref (A 0)), (1, .int a1)]) hx hb dX7_chimneysOver_3 rfl hl (by decide) rfl (fun ls hl => ?_)
  have key_4 : ∀ k i : Nat, i + k = 16 → ∀ (ls : Array Slot), lv_has ls 4 [(0, .ref (A 0)), (1, .int a1), (2, .int (pX7_chimneysOver_L4 u w a1 i)), (3, .int (nI i))] → W p l e (headSpec (Ty yX7_chimneysOver cX7_chimneysOver 4 (some .int)) ({ frames := 2, cells := 0, slots := 0, locals := 48 } : Room)).room s m ([.ref (A 0), .int a1] : List Value).toArray below meth cd s.heap [] 0 0 (MQ below (vp_Si (fun x => x = (pX7_chimneysOver u w a1))) ([.ref (A 0), .int a1] : List Value).toArray s 0 0 (fun _ => False)) (F0 m 4 ls []) := by
    intro k
    induction k with
    | zero =>
      intro i hi ls hl
      obtain rfl : i = 16 := hi
      obtain ⟨z_1, hz_1⟩ : ∃ q, q = (pX7_chimneysOver_L4 u w a1 16) := ⟨_, rfl⟩
      rw [← hz_1] at hl
      refine lv_iload_n hx hb dX7_chimneysOver_4 rfl (lv_at hl 3 rfl) ?_
      refine lv_bipush (v := 16) hx hb dX7_chimneysOver_5 (by decide) ?_
      refine lv_icmp_ge (tgt := 56) hx hb dX7_chimneysOver_7 (by decide) (fun c_2 => ?_) (fun c_2 => absurd (le_of (C := 16) (N := 16) (by decide)) c_2)
      refine lv_iload_n hx hb dX7_chimneysOver_56 rfl (lv_at hl 2 rfl) ?_
      have e9 : z_1 = (pX7_chimneysOver u w a1) := by simp only [pX7_chimneysOver, ← hz_1]
      exact W.iret (v := z_1) hx hb hr (fun t ht hW => ⟨_, rfl, e9, ht⟩) (fun _ h => absurd h List.not_mem_nil) dX7_chimneysOver_57
    | succ k ih_4 =>
      intro i hi ls hl
      have hlt : i < 16 := by omega
      refine lv_iload_n hx hb dX7_chimneysOver_4 rfl (lv_at hl 3 rfl) ?_
      refine lv_bipush (v := 16) hx hb dX7_chimneysOver_5 (by decide) ?_
      refine lv_icmp_ge (tgt := 56) hx hb dX7_chimneysOver_7 (by decide) (fun c_3 => absurd c_3 (nle_of (C := 16) (N := 16) (by decide) hlt (by decide))) (fun c_3 => ?_)
      refine lv_iload_n hx hb dX7_chimneysOver_10 rfl (lv_at hl 2 rfl) ?_
      refine lv_aload_n hx hb dX7_chimneysOver_11 rfl (lv_at hl 0 rfl) ?_
      refine va_get (D := D) (ci := 6) (v := .ref (A 1)) (C := RX7) (T := TX7) (N := 15) hx hb hts inT_X7 hown hK.1 hP 0 rfl rfl 0 (by decide) (hts _ wfl_RX7_7) (fun _ h9 => h9) rfl dX7_chimneysOver_12 ?_
      refine lv_bipush (v := 8) hx hb dX7_chimneysOver_15 (by decide) ?_
      refine va_iald (D := D) (f := (u 0)) hx hb hK.1 hP 1 1 rfl rfl (vp_lit (by decide)) dX7_chimneysOver_17 ?_
      refine W.eq (g2 := F0 m _ ls [.int ((u 0) 8), .int (pX7_chimneysOver_L4 u w a1 i)]) rfl ?_
      refine lv_iload_n hx hb dX7_chimneysOver_18 rfl (lv_at hl 3 rfl) ?_
      refine rS (As := [.int ((u 0) 8), .int (nI i)]) (rest := [.int (pX7_chimneysOver_L4 u w a1 i)]) hx hb hml hown hts hl.1 (kX7_isIn l D cyC cyI cyO ((u 0) 8) (nI i)) bS_X7_isIn  wml_RX7_62 ⟨rfl, rfl⟩ ⟨Nat.le_of_ble_eq_true rfl, Nat.le_of_ble_eq_true rfl, Nat.zero_le _, Nat.zero_le _⟩ [] rfl hP hK rfl rfl (Nat.le_of_ble_eq_true rfl) dX7_chimneysOver_19 ?_
      refine lv_if_eq (tgt := 47) hx hb dX7_chimneysOver_22 (by decide) (fun c_4 => ?_) (fun c_4 => ?_)
      · refine lv_iconst (v := 0) hx hb dX7_chimneysOver_47 (by decide) ?_
        refine lv_iadd hx hb dX7_chimneysOver_48 ?_
        refine lv_istore_n (lv' := [(2, .int ((pX7_chimneysOver_L4 u w a1 i) + (0 : Int32))), (0, .ref (A 0)), (1, .int a1), (3, .int (nI i))]) hx hb dX7_chimneysOver_49 rfl hl (by decide) rfl (fun ls hl => ?_)
        refine lv_iinc (v := (nI (i + 1))) (lv' := [(3, .int (nI (i + 1))), (2, .int ((pX7_chimneysOver_L4 u w a1 i) + (0 : Int32))), (0, .ref (A 0)), (1, .int a1)]) hx hb dX7_chimneysOver_50 hl (k := 3) rfl (nI_succ i).symm (by decide) rfl (fun ls hl => ?_)
        refine lv_goto (tgt := 4) hx hb dX7_chimneysOver_53 (by decide) ?_
        have e8 : pX7_chimneysOver_L4 u w a1 (i + 1) = ((pX7_chimneysOver_L4 u w a1 i) + (0 : Int32)) := by rw [pX7_chimneysOver_L4_s] <;> simp only [if_pos c_4]
        exact ih_4 (i + 1) (by omega) ls (by rw [e8]; exact lv_sub hl [2, 3, 1, 0] rfl)
      · refine lv_aload_n hx hb dX7_chimneysOver_25 rfl (lv_at hl 0 rfl) ?_
        refine lv_iload_n hx hb dX7_chimneysOver_26 rfl (lv_at hl 3 rfl) ?_
        refine lv_aload_n hx hb dX7_chimneysOver_27 rfl (lv_at hl 0 rfl) ?_
        refine va_get (D := D) (ci := 6) (v := .ref (A 1)) (C := RX7) (T := TX7) (N := 15) hx hb hts inT_X7 hown hK.1 hP 0 rfl rfl 0 (by decide) (hts _ wfl_RX7_7) (fun _ h9 => h9) rfl dX7_chimneysOver_28 ?_
        refine lv_iconst (v := 1) hx hb dX7_chimneysOver_31 (by decide) ?_
        refine va_iald (D := D) (f := (u 0)) hx hb hK.1 hP 1 1 rfl rfl (vp_lit (by decide)) dX7_chimneysOver_32 ?_
        refine W.eq (g2 := F0 m _ ls [.int ((u 0) 1), .int (nI i), .ref (A 0), .int (pX7_chimneysOver_L4 u w a1 i)]) rfl ?_
        refine rV (As := [.int (nI i), .int ((u 0) 1)]) (rest := [.int (pX7_chimneysOver_L4 u w a1 i)]) hx hb hml hown hts hl.1 (kX7_smokeOf l D cyC cyI cyO A u w (nI i) ((u 0) 1) hm3) bV_X7_smokeOf  wml_RX7_66 ⟨rfl, rfl⟩ ⟨Nat.le_of_ble_eq_true rfl, Nat.le_of_ble_eq_true rfl, Nat.zero_le _, Nat.zero_le _⟩ [0, 1, 2, 3, 4, 5, 6] rfl hP hK 0 rfl rfl rfl rfl rfl (Nat.le_of_ble_eq_true rfl) dX7_chimneysOver_33 ?_
        refine lv_iload_n hx hb dX7_chimneysOver_36 rfl (lv_at hl 1 rfl) ?_
        refine rS (As := [.int (pX7_smokeOf u w (nI i) ((u 0) 1)), .int a1]) (rest := [.int (pX7_chimneysOver_L4 u w a1 i)]) hx hb hml hown hts hl.1 (kX7_isIn l D cyC cyI cyO (pX7_smokeOf u w (nI i) ((u 0) 1)) a1) bS_X7_isIn  wml_RX7_62 ⟨rfl, rfl⟩ ⟨Nat.le_of_ble_eq_true rfl, Nat.le_of_ble_eq_true rfl, Nat.zero_le _, Nat.zero_le _⟩ [] rfl hP hK rfl rfl (Nat.le_of_ble_eq_true rfl) dX7_chimneysOver_37 ?_
        refine lv_if_eq (tgt := 47) hx hb dX7_chimneysOver_40 (by decide) (fun c_5 => ?_) (fun c_5 => ?_)
        · refine lv_iconst (v := 0) hx hb dX7_chimneysOver_47 (by decide) ?_
          refine lv_iadd hx hb dX7_chimneysOver_48 ?_
          refine lv_istore_n (lv' := [(2, .int ((pX7_chimneysOver_L4 u w a1 i) + (0 : Int32))), (0, .ref (A 0)), (1, .int a1), (3, .int (nI i))]) hx hb dX7_chimneysOver_49 rfl hl (by decide) rfl (fun ls hl => ?_)
          refine lv_iinc (v := (nI (i + 1))) (lv' := [(3, .int (nI (i + 1))), (2, .int ((pX7_chimneysOver_L4 u w a1 i) + (0 : Int32))), (0, .ref (A 0)), (1, .int a1)]) hx hb dX7_chimneysOver_50 hl (k := 3) rfl (nI_succ i).symm (by decide) rfl (fun ls hl => ?_)
          refine lv_goto (tgt := 4) hx hb dX7_chimneysOver_53 (by decide) ?_
          have e8 : pX7_chimneysOver_L4 u w a1 (i + 1) = ((pX7_chimneysOver_L4 u w a1 i) + (0 : Int32)) := by rw [pX7_chimneysOver_L4_s] <;> simp only [if_neg c_4, if_pos c_5]
          exact ih_4 (i + 1) (by omega) ls (by rw [e8]; exact lv_sub hl [2, 3, 1, 0] rfl)
        · refine lv_iconst (v := 1) hx hb dX7_chimneysOver_43 (by decide) ?_
          refine lv_goto (tgt := 48) hx hb dX7_chimneysOver_44 (by decide) ?_
          refine lv_iadd hx hb dX7_chimneysOver_48 ?_
          refine lv_istore_n (lv' := [(2, .int ((pX7_chimneysOver_L4 u w a1 i) + (1 : Int32))), (0, .ref (A 0)), (1, .int a1), (3, .int (nI i))]) hx hb dX7_chimneysOver_49 rfl hl (by decide) rfl (fun ls hl => ?_)
          refine lv_iinc (v := (nI (i + 1))) (lv' := [(3, .int (nI (i + 1))), (2, .int ((pX7_chimneysOver_L4 u w a1 i) + (1 : Int32))), (0, .ref (A 0)), (1, .int a1)]) hx hb dX7_chimneysOver_50 hl (k := 3) rfl (nI_succ i).symm (by decide) rfl (fun ls hl => ?_)
          refine lv_goto (tgt := 4) hx hb dX7_chimneysOver_53 (by decide) ?_
          have e8 : pX7_chimneysOver_L4 u w a1 (i + 1) = ((pX7_chimneysOver_L4 u w a1 i) + (1 : Int32)) := by rw [pX7_chimneysOver_L4_s] <;> simp only [if_neg c_4, if_neg c_5]
          exact ih_4 (i + 1) (by omega) ls (by rw [e8]; exact lv_sub hl [2, 3, 1, 0] rfl)
  exact key_4 16 0 (Nat.zero_add 16) ls (lv_sub hl [2, 3, 1, 0] rfl)
theorem bV_X7_chimneysOver : BV RX7 yX7_chimneysOver cX7_chimneysOver 4 (some .int) 1 := ⟨wcd_X7_chimneysOver, wim_X7_chimneysOver, wse_X7_chimneysOver, win_RX7, by decide +kernel⟩
def pX7_ownersAt_L4 (u : (Nat → Nat → Int32)) (w : (Nat → Int32)) (a1 : Int32) : Nat → Int32 := fo (fun i x_i => (if (pX7_ofOwner u w (nI i) 3) = a1 then (x_i ||| ((1 : Int32) <<< ((nI i) &&& 31))) else (x_i ||| (0 : Int32)))) 0
theorem pX7_ownersAt_L4_s (u : (Nat → Nat → Int32)) (w : (Nat → Int32)) (a1 : Int32) (i : Nat) : pX7_ownersAt_L4 u w a1 (i + 1) = (if (pX7_ofOwner u w (nI i) 3) = a1 then ((pX7_ownersAt_L4 u w a1 i) ||| ((1 : Int32) <<< ((nI i) &&& 31))) else ((pX7_ownersAt_L4 u w a1 i) ||| (0 : Int32))) := rfl
theorem pX7_ownersAt_L4_0 (u : (Nat → Nat → Int32)) (w : (Nat → Int32)) (a1 : Int32) : pX7_ownersAt_L4 u w a1 0 = 0 := rfl
def pX7_ownersAt (u : (Nat → Nat → Int32)) (w : (Nat → Int32)) (a1 : Int32) : Int32 := (pX7_ownersAt_L4 u w a1 4)
set_option maxHeartbeats 4000000 in
set_option maxRecDepth 100000 in
theorem kX7_ownersAt (l : Launch) (D : va_G) (cyC cyI cyO : ClassId) (A : Nat → Nat) (u : (Nat → Nat → Int32)) (w : (Nat → Int32)) (a1 : Int32) : RO l yX7_ownersAt (Ty yX7_ownersAt cX7_ownersAt 4 (some .int)) ({ frames := 1, cells := 0, slots := 0, locals := 22 } : Room) D cyC cyI cyO (wM cyI A u w) [.ref (A 0), .int a1] (pX7_ownersAt u w a1) := by
  refine Met.ofW (cc := cX7_ownersAt) (maxL := 4) (ret := (some .int)) (by decide) rfl ?_
  intro p e s m args below meth cd s₁ B hml hv
  obtain ⟨rfl, hP, hK⟩ := hv
  have hx := B.exec
  have hb := B.bytes
  have hr := B.returns
  have hts : ∀ w ∈ TB, w.before ([.ref (A 0), .int a1] : List Value).toArray s = true := fun w h => atoms_spec (ws := (Ty yX7_ownersAt cX7_ownersAt 4 (some .int))) B.pre w (List.mem_cons_of_mem _ h)
  have hown : s.vm.findClass RX7 = some m.cls := findClass_of_methodNamed B.named
  have hlocks := B.notSynchronized
  have hl := lv_entry ([.ref (A 0), .int a1]) (n := 4) (Nat.le_of_ble_eq_true rfl)
  rw [lg_entry_eq]
  generalize (lg_sl ([.ref (A 0), .int a1]) ++ List.replicate (4 - (lg_sl ([.ref (A 0), .int a1])).length) Slot.unset).toArray = ls at hl ⊢
  have hl : lv_has ls 4 [(0, .ref (A 0)), (1, .int a1)] := hl
  refine lv_iconst (v := 0) hx hb dX7_ownersAt_0 (by decide) ?_
  refine lv_istore_n (lv' := [(2, .int 0), (0, .ref (A 0)), (1, .int a1)]) hx hb dX7_ownersAt_1 rfl hl (by decide) rfl (fun ls hl => ?_)
  refine lv_iconst (v := 0) hx hb dX7_ownersAt_2 (by decide) ?_
  refine lv_istore_n (lv' := [(3, .int 0), (2, .int 0), (0, .ref (A 0)), (1, .int a1)]) hx hb dX7_ownersAt_3 rfl hl (by decide) rfl (fun ls hl => ?_)
  have key_4 : ∀ k i : Nat, i + k = 4 → ∀ (ls : Array Slot), lv_has ls 4 [(0, .ref (A 0)), (1, .int a1), (2, .int (pX7_ownersAt_L4 u w a1 i)), (3, .int (nI i))] → W p l e (headSpec (Ty yX7_ownersAt cX7_ownersAt 4 (some .int)) ({ frames := 1, cells := 0, slots := 0, locals := 22 } : Room)).room s m ([.ref (A 0), .int a1] : List Value).toArray below meth cd s.heap [] 0 0 (MQ below (vp_Si (fun x => x = (pX7_ownersAt u w a1))) ([.ref (A 0), .int a1] : List Value).toArray s 0 0 (fun _ => False)) (F0 m 4 ls []) := by
    intro k
    induction k with
    | zero =>
      intro i hi ls hl
      obtain rfl : i = 4 := hi
      obtain ⟨z_1, hz_1⟩ : ∃ q, q = (pX7_ownersAt_L4 u w a1 4) := ⟨_, rfl⟩
      rw [← hz_1] at hl
      refine lv_iload_n hx hb dX7_ownersAt_4 rfl (lv_at hl 3 rfl) ?_
      refine lv_iconst (v := 4) hx hb dX7_ownersAt_5 (by decide) ?_
      refine lv_icmp_ge (tgt := 35) hx hb dX7_ownersAt_6 (by decide) (fun c_2 => ?_) (fun c_2 => absurd (le_of (C := 4) (N := 4) (by decide)) c_2)
      refine lv_iload_n hx hb dX7_ownersAt_35 rfl (lv_at hl 2 rfl) ?_
      have e9 : z_1 = (pX7_ownersAt u w a1) := by simp only [pX7_ownersAt, ← hz_1]
      exact W.iret (v := z_1) hx hb hr (fun t ht hW => ⟨_, rfl, e9, ht⟩) (fun _ h => absurd h List.not_mem_nil) dX7_ownersAt_36
    | succ k ih_4 =>
      intro i hi ls hl
      have hlt : i < 4 := by omega
      refine lv_iload_n hx hb dX7_ownersAt_4 rfl (lv_at hl 3 rfl) ?_
      refine lv_iconst (v := 4) hx hb dX7_ownersAt_5 (by decide) ?_
      refine lv_icmp_ge (tgt := 35) hx hb dX7_ownersAt_6 (by decide) (fun c_3 => absurd c_3 (nle_of (C := 4) (N := 4) (by decide) hlt (by decide))) (fun c_3 => ?_)
      refine lv_iload_n hx hb dX7_ownersAt_9 rfl (lv_at hl 2 rfl) ?_
      refine lv_aload_n hx hb dX7_ownersAt_10 rfl (lv_at hl 0 rfl) ?_
      refine lv_iload_n hx hb dX7_ownersAt_11 rfl (lv_at hl 3 rfl) ?_
      refine lv_iconst (v := 3) hx hb dX7_ownersAt_12 (by decide) ?_
      refine rV (As := [.int (nI i), .int 3]) (rest := [.int (pX7_ownersAt_L4 u w a1 i)]) hx hb hml hown hts hl.1 (kX7_ofOwner l D cyC cyI cyO A u w (nI i) 3 (vp_in_nI (Nat.lt_of_lt_of_le hlt (by decide)) (by decide)) (vp_lit (by decide))) bV_X7_ofOwner  wml_RX7_72 ⟨rfl, rfl⟩ ⟨Nat.le_of_ble_eq_true rfl, Nat.le_of_ble_eq_true rfl, Nat.zero_le _, Nat.zero_le _⟩ [0, 1, 2, 3, 4, 5, 6] rfl hP hK 0 rfl rfl rfl rfl rfl (Nat.le_of_ble_eq_true rfl) dX7_ownersAt_13 ?_
      refine lv_iload_n hx hb dX7_ownersAt_16 rfl (lv_at hl 1 rfl) ?_
      refine lv_icmp_ne (tgt := 26) hx hb dX7_ownersAt_17 (by decide) (fun c_4 => ?_) (fun c_4 => ?_)
      · refine lv_iconst (v := 0) hx hb dX7_ownersAt_26 (by decide) ?_
        refine lv_ior hx hb dX7_ownersAt_27 ?_
        refine lv_istore_n (lv' := [(2, .int ((pX7_ownersAt_L4 u w a1 i) ||| (0 : Int32))), (0, .ref (A 0)), (1, .int a1), (3, .int (nI i))]) hx hb dX7_ownersAt_28 rfl hl (by decide) rfl (fun ls hl => ?_)
        refine lv_iinc (v := (nI (i + 1))) (lv' := [(3, .int (nI (i + 1))), (2, .int ((pX7_ownersAt_L4 u w a1 i) ||| (0 : Int32))), (0, .ref (A 0)), (1, .int a1)]) hx hb dX7_ownersAt_29 hl (k := 3) rfl (nI_succ i).symm (by decide) rfl (fun ls hl => ?_)
        refine lv_goto (tgt := 4) hx hb dX7_ownersAt_32 (by decide) ?_
        have e8 : pX7_ownersAt_L4 u w a1 (i + 1) = ((pX7_ownersAt_L4 u w a1 i) ||| (0 : Int32)) := by rw [pX7_ownersAt_L4_s] <;> simp only [if_neg c_4]
        exact ih_4 (i + 1) (by omega) ls (by rw [e8]; exact lv_sub hl [2, 3, 1, 0] rfl)
      · refine lv_iconst (v := 1) hx hb dX7_ownersAt_20 (by decide) ?_
        refine lv_iload_n hx hb dX7_ownersAt_21 rfl (lv_at hl 3 rfl) ?_
        refine lv_ishl hx hb dX7_ownersAt_22 ?_
        refine lv_goto (tgt := 27) hx hb dX7_ownersAt_23 (by decide) ?_
        refine lv_ior hx hb dX7_ownersAt_27 ?_
        refine lv_istore_n (lv' := [(2, .int ((pX7_ownersAt_L4 u w a1 i) ||| ((1 : Int32) <<< ((nI i) &&& 31)))), (0, .ref (A 0)), (1, .int a1), (3, .int (nI i))]) hx hb dX7_ownersAt_28 rfl hl (by decide) rfl (fun ls hl => ?_)
        refine lv_iinc (v := (nI (i + 1))) (lv' := [(3, .int (nI (i + 1))), (2, .int ((pX7_ownersAt_L4 u w a1 i) ||| ((1 : Int32) <<< ((nI i) &&& 31)))), (0, .ref (A 0)), (1, .int a1)]) hx hb dX7_ownersAt_29 hl (k := 3) rfl (nI_succ i).symm (by decide) rfl (fun ls hl => ?_)
        refine lv_goto (tgt := 4) hx hb dX7_ownersAt_32 (by decide) ?_
        have e8 : pX7_ownersAt_L4 u w a1 (i + 1) = ((pX7_ownersAt_L4 u w a1 i) ||| ((1 : Int32) <<< ((nI i) &&& 31))) := by rw [pX7_ownersAt_L4_s] <;> simp only [if_pos c_4]
        exact ih_4 (i + 1) (by omega) ls (by rw [e8]; exact lv_sub hl [2, 3, 1, 0] rfl)
  exact key_4 4 0 (Nat.zero_add 4) ls (lv_sub hl [2, 3, 1, 0] rfl)
theorem bV_X7_ownersAt : BV RX7 yX7_ownersAt cX7_ownersAt 4 (some .int) 1 := ⟨wcd_X7_ownersAt, wim_X7_ownersAt, wse_X7_ownersAt, win_RX7, by decide +kernel⟩
def pX7_strongAt_L4 (u : (Nat → Nat → Int32)) (w : (Nat → Int32)) (a1 : Int32) : Nat → Int32 := fo (fun i x_i => (if (pX7_isOfRoof (nI i) a1) = 0 then (x_i + (0 : Int32)) else (if (pX7_of u w (nI i) 0) ≤ 0 then (x_i + (0 : Int32)) else (x_i + (1 : Int32))))) 0
theorem pX7_strongAt_L4_s (u : (Nat → Nat → Int32)) (w : (Nat → Int32)) (a1 : Int32) (i : Nat) : pX7_strongAt_L4 u w a1 (i + 1) = (if (pX7_isOfRoof (nI i) a1) = 0 then ((pX7_strongAt_L4 u w a1 i) + (0 : Int32)) else (if (pX7_of u w (nI i) 0) ≤ 0 then ((pX7_strongAt_L4 u w a1 i) + (0 : Int32)) else ((pX7_strongAt_L4 u w a1 i) + (1 : Int32)))) := rfl
theorem pX7_strongAt_L4_0 (u : (Nat → Nat → Int32)) (w : (Nat → Int32)) (a1 : Int32) : pX7_strongAt_L4 u w a1 0 = 0 := rfl
def pX7_strongAt (u : (Nat → Nat → Int32)) (w : (Nat → Int32)) (a1 : Int32) : Int32 := (pX7_strongAt_L4 u w a1 28)
set_option maxHeartbeats 4000000 in
set_option maxRecDepth 100000 in
theorem kX7_strongAt (l : Launch) (D : va_G) (cyC cyI cyO : ClassId) (A : Nat → Nat) (u : (Nat → Nat → Int32)) (w : (Nat → Int32)) (a1 : Int32) : RO l yX7_strongAt (Ty yX7_strongAt cX7_strongAt 4 (some .int)) ({ frames := 3, cells := 0, slots := 0, locals := 63 } : Room) D cyC cyI cyO (wM cyI A u w) [.ref (A 0), .int a1] (pX7_strongAt u w a1) := by
  refine Met.ofW (cc := cX7_strongAt) (maxL := 4) (ret := (some .int)) (by decide) rfl ?_
  intro p e s m args below meth cd s₁ B hml hv
  obtain ⟨rfl, hP, hK⟩ := hv
  have hx := B.exec
  have hb := B.bytes
  have hr := B.returns
  have hts : ∀ w ∈ TB, w.before ([.ref (A 0), .int a1] : List Value).toArray s = true := fun w h => atoms_spec (ws := (Ty yX7_strongAt cX7_strongAt 4 (some .int))) B.pre w (List.mem_cons_of_mem _ h)
  have hown : s.vm.findClass RX7 = some m.cls := findClass_of_methodNamed B.named
  have hlocks := B.notSynchronized
  have hl := lv_entry ([.ref (A 0), .int a1]) (n := 4) (Nat.le_of_ble_eq_true rfl)
  rw [lg_entry_eq]
  generalize (lg_sl ([.ref (A 0), .int a1]) ++ List.replicate (4 - (lg_sl ([.ref (A 0), .int a1])).length) Slot.unset).toArray = ls at hl ⊢
  have hl : lv_has ls 4 [(0, .ref (A 0)), (1, .int a1)] := hl
  refine lv_iconst (v := 0) hx hb dX7_strongAt_0 (by decide) ?_
  refine lv_istore_n (lv' := [(2, .int 0), (0, .ref (A 0)), (1, .int a1)]) hx hb dX7_strongAt_1 rfl hl (by decide) rfl (fun ls hl => ?_)
  refine lv_iconst (v := 0) hx hb dX7_strongAt_2 (by decide) ?_
  refine lv_istore_n (lv' := [(3, .int 0), (2, .int 0), (0, .ref (A 0)), (1, .int a1)]) hx hb dX7_strongAt_3 rfl hl (by decide) rfl (fun ls hl => ?_)
  have key_4 : ∀ k i : Nat, i + k = 28 → ∀ (ls : Array Slot), lv_has ls 4 [(0, .ref (A 0)), (1, .int a1), (2, .int (pX7_strongAt_L4 u w a1 i)), (3, .int (nI i))] → W p l e (headSpec (Ty yX7_strongAt cX7_strongAt 4 (some .int)) ({ frames := 3, cells := 0, slots := 0, locals := 63 } : Room)).room s m ([.ref (A 0), .int a1] : List Value).toArray below meth cd s.heap [] 0 0 (MQ below (vp_Si (fun x => x = (pX7_strongAt u w a1))) ([.ref (A 0), .int a1] : List Value).toArray s 0 0 (fun _ => False)) (F0 m 4 ls []) := by
    intro k
    induction k with
    | zero =>
      intro i hi ls hl
      obtain rfl : i = 28 := hi
      obtain ⟨z_1, hz_1⟩ : ∃ q, q = (pX7_strongAt_L4 u w a1 28) := ⟨_, rfl⟩
      rw [← hz_1] at hl
      refine lv_iload_n hx hb dX7_strongAt_4 rfl (lv_at hl 3 rfl) ?_
      refine lv_bipush (v := 28) hx hb dX7_strongAt_5 (by decide) ?_
      refine lv_icmp_ge (tgt := 41) hx hb dX7_strongAt_7 (by decide) (fun c_2 => ?_) (fun c_2 => absurd (le_of (C := 28) (N := 28) (by decide)) c_2)
      refine lv_iload_n hx hb dX7_strongAt_41 rfl (lv_at hl 2 rfl) ?_
      have e9 : z_1 = (pX7_strongAt u w a1) := by simp only [pX7_strongAt, ← hz_1]
      exact W.iret (v := z_1) hx hb hr (fun t ht hW => ⟨_, rfl, e9, ht⟩) (fun _ h => absurd h List.not_mem_nil) dX7_strongAt_42
    | succ k ih_4 =>
      intro i hi ls hl
      have hlt : i < 28 := by omega
      refine lv_iload_n hx hb dX7_strongAt_4 rfl (lv_at hl 3 rfl) ?_
      refine lv_bipush (v := 28) hx hb dX7_strongAt_5 (by decide) ?_
      refine lv_icmp_ge (tgt := 41) hx hb dX7_strongAt_7 (by decide) (fun c_3 => absurd c_3 (nle_of (C := 28) (N := 28) (by decide) hlt (by decide))) (fun c_3 => ?_)
      refine lv_iload_n hx hb dX7_strongAt_10 rfl (lv_at hl 2 rfl) ?_
      refine lv_iload_n hx hb dX7_strongAt_11 rfl (lv_at hl 3 rfl) ?_
      refine lv_iload_n hx hb dX7_strongAt_12 rfl (lv_at hl 1 rfl) ?_
      refine rS (As := [.int (nI i), .int a1]) (rest := [.int (pX7_strongAt_L4 u w a1 i)]) hx hb hml hown hts hl.1 (kX7_isOfRoof l D cyC cyI cyO (nI i) a1) bS_X7_isOfRoof  wml_RX7_136 ⟨rfl, rfl⟩ ⟨Nat.le_of_ble_eq_true rfl, Nat.le_of_ble_eq_true rfl, Nat.zero_le _, Nat.zero_le _⟩ [] rfl hP hK rfl rfl (Nat.le_of_ble_eq_true rfl) dX7_strongAt_13 ?_
      refine lv_if_eq (tgt := 32) hx hb dX7_strongAt_16 (by decide) (fun c_4 => ?_) (fun c_4 => ?_)
      · refine lv_iconst (v := 0) hx hb dX7_strongAt_32 (by decide) ?_
        refine lv_iadd hx hb dX7_strongAt_33 ?_
        refine lv_istore_n (lv' := [(2, .int ((pX7_strongAt_L4 u w a1 i) + (0 : Int32))), (0, .ref (A 0)), (1, .int a1), (3, .int (nI i))]) hx hb dX7_strongAt_34 rfl hl (by decide) rfl (fun ls hl => ?_)
        refine lv_iinc (v := (nI (i + 1))) (lv' := [(3, .int (nI (i + 1))), (2, .int ((pX7_strongAt_L4 u w a1 i) + (0 : Int32))), (0, .ref (A 0)), (1, .int a1)]) hx hb dX7_strongAt_35 hl (k := 3) rfl (nI_succ i).symm (by decide) rfl (fun ls hl => ?_)
        refine lv_goto (tgt := 4) hx hb dX7_strongAt_38 (by decide) ?_
        have e8 : pX7_strongAt_L4 u w a1 (i + 1) = ((pX7_strongAt_L4 u w a1 i) + (0 : Int32)) := by rw [pX7_strongAt_L4_s] <;> simp only [if_pos c_4]
        exact ih_4 (i + 1) (by omega) ls (by rw [e8]; exact lv_sub hl [2, 3, 1, 0] rfl)
      · refine lv_aload_n hx hb dX7_strongAt_19 rfl (lv_at hl 0 rfl) ?_
        refine lv_iload_n hx hb dX7_strongAt_20 rfl (lv_at hl 3 rfl) ?_
        refine lv_iconst (v := 0) hx hb dX7_strongAt_21 (by decide) ?_
        refine rV (As := [.int (nI i), .int 0]) (rest := [.int (pX7_strongAt_L4 u w a1 i)]) hx hb hml hown hts hl.1 (kX7_of l D cyC cyI cyO A u w (nI i) 0 (vp_in_nI (Nat.lt_of_lt_of_le hlt (by decide)) (by decide)) (vp_lit (by decide))) bV_X7_of  wml_RX7_52 ⟨rfl, rfl⟩ ⟨Nat.le_of_ble_eq_true rfl, Nat.le_of_ble_eq_true rfl, Nat.zero_le _, Nat.zero_le _⟩ [0, 1, 2, 3, 4, 5, 6] rfl hP hK 0 rfl rfl rfl rfl rfl (Nat.le_of_ble_eq_true rfl) dX7_strongAt_22 ?_
        refine lv_if_le (tgt := 32) hx hb dX7_strongAt_25 (by decide) (fun c_5 => ?_) (fun c_5 => ?_)
        · refine lv_iconst (v := 0) hx hb dX7_strongAt_32 (by decide) ?_
          refine lv_iadd hx hb dX7_strongAt_33 ?_
          refine lv_istore_n (lv' := [(2, .int ((pX7_strongAt_L4 u w a1 i) + (0 : Int32))), (0, .ref (A 0)), (1, .int a1), (3, .int (nI i))]) hx hb dX7_strongAt_34 rfl hl (by decide) rfl (fun ls hl => ?_)
          refine lv_iinc (v := (nI (i + 1))) (lv' := [(3, .int (nI (i + 1))), (2, .int ((pX7_strongAt_L4 u w a1 i) + (0 : Int32))), (0, .ref (A 0)), (1, .int a1)]) hx hb dX7_strongAt_35 hl (k := 3) rfl (nI_succ i).symm (by decide) rfl (fun ls hl => ?_)
          refine lv_goto (tgt := 4) hx hb dX7_strongAt_38 (by decide) ?_
          have e8 : pX7_strongAt_L4 u w a1 (i + 1) = ((pX7_strongAt_L4 u w a1 i) + (0 : Int32)) := by rw [pX7_strongAt_L4_s] <;> simp only [if_neg c_4, if_pos c_5]
          exact ih_4 (i + 1) (by omega) ls (by rw [e8]; exact lv_sub hl [2, 3, 1, 0] rfl)
        · refine lv_iconst (v := 1) hx hb dX7_strongAt_28 (by decide) ?_
          refine lv_goto (tgt := 33) hx hb dX7_strongAt_29 (by decide) ?_
          refine lv_iadd hx hb dX7_strongAt_33 ?_
          refine lv_istore_n (lv' := [(2, .int ((pX7_strongAt_L4 u w a1 i) + (1 : Int32))), (0, .ref (A 0)), (1, .int a1), (3, .int (nI i))]) hx hb dX7_strongAt_34 rfl hl (by decide) rfl (fun ls hl => ?_)
          refine lv_iinc (v := (nI (i + 1))) (lv' := [(3, .int (nI (i + 1))), (2, .int ((pX7_strongAt_L4 u w a1 i) + (1 : Int32))), (0, .ref (A 0)), (1, .int a1)]) hx hb dX7_strongAt_35 hl (k := 3) rfl (nI_succ i).symm (by decide) rfl (fun ls hl => ?_)
          refine lv_goto (tgt := 4) hx hb dX7_strongAt_38 (by decide) ?_
          have e8 : pX7_strongAt_L4 u w a1 (i + 1) = ((pX7_strongAt_L4 u w a1 i) + (1 : Int32)) := by rw [pX7_strongAt_L4_s] <;> simp only [if_neg c_4, if_neg c_5]
          exact ih_4 (i + 1) (by omega) ls (by rw [e8]; exact lv_sub hl [2, 3, 1, 0] rfl)
  exact key_4 28 0 (Nat.zero_add 28) ls (lv_sub hl [2, 3, 1, 0] rfl)
theorem bV_X7_strongAt : BV RX7 yX7_strongAt cX7_strongAt 4 (some .int) 1 := ⟨wcd_X7_strongAt, wim_X7_strongAt, wse_X7_strongAt, win_RX7, by decide +kernel⟩
def pX7_linesAt_L4 (u : (Nat → Nat → Int32)) (w : (Nat → Int32)) (a1 : Int32) : Nat → Int32 := fo (fun i x_i => (if (pX7_isOfRoof (nI i) a1) = 0 then (x_i + (0 : Int32)) else (if (pX7_hasLine u w (nI i)) = 0 then (x_i + (0 : Int32)) else (x_i + (1 : Int32))))) 0
theorem pX7_linesAt_L4_s (u : (Nat → Nat → Int32)) (w : (Nat → Int32)) (a1 : Int32) (i : Nat) : pX7_linesAt_L4 u w a1 (i + 1) = (if (pX7_isOfRoof (nI i) a1) = 0 then ((pX7_linesAt_L4 u w a1 i) + (0 : Int32)) else (if (pX7_hasLine u w (nI i)) = 0 then ((pX7_linesAt_L4 u w a1 i) + (0 : Int32)) else ((pX7_linesAt_L4 u w a1 i) + (1 : Int32)))) := rfl
theorem pX7_linesAt_L4_0 (u : (Nat → Nat → Int32)) (w : (Nat → Int32)) (a1 : Int32) : pX7_linesAt_L4 u w a1 0 = 0 := rfl
def pX7_linesAt (u : (Nat → Nat → Int32)) (w : (Nat → Int32)) (a1 : Int32) : Int32 := (pX7_linesAt_L4 u w a1 28)
set_option maxHeartbeats 4000000 in
set_option maxRecDepth 100000 in
theorem kX7_linesAt (l : Launch) (D : va_G) (cyC cyI cyO : ClassId) (A : Nat → Nat) (u : (Nat → Nat → Int32)) (w : (Nat → Int32)) (a1 : Int32) : RO l yX7_linesAt (Ty yX7_linesAt cX7_linesAt 4 (some .int)) ({ frames := 3, cells := 0, slots := 0, locals := 63 } : Room) D cyC cyI cyO (wM cyI A u w) [.ref (A 0), .int a1] (pX7_linesAt u w a1) := by
  refine Met.ofW (cc := cX7_linesAt) (maxL := 4) (ret := (some .int)) (by decide) rfl ?_
  intro p e s m args below meth cd s₁ B hml hv
  obtain ⟨rfl, hP, hK⟩ := hv
  have hx := B.exec
  have hb := B.bytes
  have hr := B.returns
  have hts : ∀ w ∈ TB, w.before ([.ref (A 0), .int a1] : List Value).toArray s = true := fun w h => atoms_spec (ws := (Ty yX7_linesAt cX7_linesAt 4 (some .int))) B.pre w (List.mem_cons_of_mem _ h)
  have hown : s.vm.findClass RX7 = some m.cls := findClass_of_methodNamed B.named
  have hlocks := B.notSynchronized
  have hl := lv_entry ([.ref (A 0), .int a1]) (n := 4) (Nat.le_of_ble_eq_true rfl)
  rw [lg_entry_eq]
  generalize (lg_sl ([.ref (A 0), .int a1]) ++ List.replicate (4 - (lg_sl ([.ref (A 0), .int a1])).length) Slot.unset).toArray = ls at hl ⊢
  have hl : lv_has ls 4 [(0, .ref (A 0)), (1, .int a1)] := hl
  refine lv_iconst (v := 0) hx hb dX7_linesAt_0 (by decide) ?_
  refine lv_istore_n (lv' := [(2, .int 0), (0, .ref (A 0)), (1, .int a1)]) hx hb dX7_linesAt_1 rfl hl (by decide) rfl (fun ls hl => ?_)
  refine lv_iconst (v := 0) hx hb dX7_linesAt_2 (by decide) ?_
  refine lv_istore_n (lv' := [(3, .int 0), (2, .int 0), (0, .ref (A 0)), (1, .int a1)]) hx hb dX7_linesAt_3 rfl hl (by decide) rfl (fun ls hl => ?_)
  have key_4 : ∀ k i : Nat, i + k = 28 → ∀ (ls : Array Slot), lv_has ls 4 [(0, .ref (A 0)), (1, .int a1), (2, .int (pX7_linesAt_L4 u w a1 i)), (3, .int (nI i))] → W p l e (headSpec (Ty yX7_linesAt cX7_linesAt 4 (some .int)) ({ frames := 3, cells := 0, slots := 0, locals := 63 } : Room)).room s m ([.ref (A 0), .int a1] : List Value).toArray below meth cd s.heap [] 0 0 (MQ below (vp_Si (fun x => x = (pX7_linesAt u w a1))) ([.ref (A 0), .int a1] : List Value).toArray s 0 0 (fun _ => False)) (F0 m 4 ls []) := by
    intro k
    induction k with
    | zero =>
      intro i hi ls hl
      obtain rfl : i = 28 := hi
      obtain ⟨z_1, hz_1⟩ : ∃ q, q = (pX7_linesAt_L4 u w a1 28) := ⟨_, rfl⟩
      rw [← hz_1] at hl
      refine lv_iload_n hx hb dX7_linesAt_4 rfl (lv_at hl 3 rfl) ?_
      refine lv_bipush (v := 28) hx hb dX7_linesAt_5 (by decide) ?_
      refine lv_icmp_ge (tgt := 40) hx hb dX7_linesAt_7 (by decide) (fun c_2 => ?_) (fun c_2 => absurd (le_of (C := 28) (N := 28) (by decide)) c_2)
      refine lv_iload_n hx hb dX7_linesAt_40 rfl (lv_at hl 2 rfl) ?_
      have e9 : z_1 = (pX7_linesAt u w a1) := by simp only [pX7_linesAt, ← hz_1]
      exact W.iret (v := z_1) hx hb hr (fun t ht hW => ⟨_, rfl, e9, ht⟩) (fun _ h => absurd h List.not_mem_nil) dX7_linesAt_41
    | succ k ih_4 =>
      intro i hi ls hl
      have hlt : i < 28 := by omega
      refine lv_iload_n hx hb dX7_linesAt_4 rfl (lv_at hl 3 rfl) ?_
      refine lv_bipush (v := 28) hx hb dX7_linesAt_5 (by decide) ?_
      refine lv_icmp_ge (tgt := 40) hx hb dX7_linesAt_7 (by decide) (fun c_3 => absurd c_3 (nle_of (C := 28) (N := 28) (by decide) hlt (by decide))) (fun c_3 => ?_)
      refine lv_iload_n hx hb dX7_linesAt_10 rfl (lv_at hl 2 rfl) ?_
      refine lv_iload_n hx hb dX7_linesAt_11 rfl (lv_at hl 3 rfl) ?_
      refine lv_iload_n hx hb dX7_linesAt_12 rfl (lv_at hl 1 rfl) ?_
      refine rS (As := [.int (nI i), .int a1]) (rest := [.int (pX7_linesAt_L4 u w a1 i)]) hx hb hml hown hts hl.1 (kX7_isOfRoof l D cyC cyI cyO (nI i) a1) bS_X7_isOfRoof  wml_RX7_136 ⟨rfl, rfl⟩ ⟨Nat.le_of_ble_eq_true rfl, Nat.le_of_ble_eq_true rfl, Nat.zero_le _, Nat.zero_le _⟩ [] rfl hP hK rfl rfl (Nat.le_of_ble_eq_true rfl) dX7_linesAt_13 ?_
      refine lv_if_eq (tgt := 31) hx hb dX7_linesAt_16 (by decide) (fun c_4 => ?_) (fun c_4 => ?_)
      · refine lv_iconst (v := 0) hx hb dX7_linesAt_31 (by decide) ?_
        refine lv_iadd hx hb dX7_linesAt_32 ?_
        refine lv_istore_n (lv' := [(2, .int ((pX7_linesAt_L4 u w a1 i) + (0 : Int32))), (0, .ref (A 0)), (1, .int a1), (3, .int (nI i))]) hx hb dX7_linesAt_33 rfl hl (by decide) rfl (fun ls hl => ?_)
        refine lv_iinc (v := (nI (i + 1))) (lv' := [(3, .int (nI (i + 1))), (2, .int ((pX7_linesAt_L4 u w a1 i) + (0 : Int32))), (0, .ref (A 0)), (1, .int a1)]) hx hb dX7_linesAt_34 hl (k := 3) rfl (nI_succ i).symm (by decide) rfl (fun ls hl => ?_)
        refine lv_goto (tgt := 4) hx hb dX7_linesAt_37 (by decide) ?_
        have e8 : pX7_linesAt_L4 u w a1 (i + 1) = ((pX7_linesAt_L4 u w a1 i) + (0 : Int32)) := by rw [pX7_linesAt_L4_s] <;> simp only [if_pos c_4]
        exact ih_4 (i + 1) (by omega) ls (by rw [e8]; exact lv_sub hl [2, 3, 1, 0] rfl)
      · refine lv_aload_n hx hb dX7_linesAt_19 rfl (lv_at hl 0 rfl) ?_
        refine lv_iload_n hx hb dX7_linesAt_20 rfl (lv_at hl 3 rfl) ?_
        refine rV (As := [.int (nI i)]) (rest := [.int (pX7_linesAt_L4 u w a1 i)]) hx hb hml hown hts hl.1 (kX7_hasLine l D cyC cyI cyO A u w (nI i) (vp_in_nI (Nat.lt_of_lt_of_le hlt (by decide)) (by decide))) bV_X7_hasLine  wml_RX7_56 ⟨rfl, rfl⟩ ⟨Nat.le_of_ble_eq_true rfl, Nat.le_of_ble_eq_true rfl, Nat.zero_le _, Nat.zero_le _⟩ [0, 1, 2, 3, 4, 5, 6] rfl hP hK 0 rfl rfl rfl rfl rfl (Nat.le_of_ble_eq_true rfl) dX7_linesAt_21 ?_
        refine lv_if_eq (tgt := 31) hx hb dX7_linesAt_24 (by decide) (fun c_5 => ?_) (fun c_5 => ?_)
        · refine lv_iconst (v := 0) hx hb dX7_linesAt_31 (by decide) ?_
          refine lv_iadd hx hb dX7_linesAt_32 ?_
          refine lv_istore_n (lv' := [(2, .int ((pX7_linesAt_L4 u w a1 i) + (0 : Int32))), (0, .ref (A 0)), (1, .int a1), (3, .int (nI i))]) hx hb dX7_linesAt_33 rfl hl (by decide) rfl (fun ls hl => ?_)
          refine lv_iinc (v := (nI (i + 1))) (lv' := [(3, .int (nI (i + 1))), (2, .int ((pX7_linesAt_L4 u w a1 i) + (0 : Int32))), (0, .ref (A 0)), (1, .int a1)]) hx hb dX7_linesAt_34 hl (k := 3) rfl (nI_succ i).symm (by decide) rfl (fun ls hl => ?_)
          refine lv_goto (tgt := 4) hx hb dX7_linesAt_37 (by decide) ?_
          have e8 : pX7_linesAt_L4 u w a1 (i + 1) = ((pX7_linesAt_L4 u w a1 i) + (0 : Int32)) := by rw [pX7_linesAt_L4_s] <;> simp only [if_neg c_4, if_pos c_5]
          exact ih_4 (i + 1) (by omega) ls (by rw [e8]; exact lv_sub hl [2, 3, 1, 0] rfl)
        · refine lv_iconst (v := 1) hx hb dX7_linesAt_27 (by decide) ?_
          refine lv_goto (tgt := 32) hx hb dX7_linesAt_28 (by decide) ?_
          refine lv_iadd hx hb dX7_linesAt_32 ?_
          refine lv_istore_n (lv' := [(2, .int ((pX7_linesAt_L4 u w a1 i) + (1 : Int32))), (0, .ref (A 0)), (1, .int a1), (3, .int (nI i))]) hx hb dX7_linesAt_33 rfl hl (by decide) rfl (fun ls hl => ?_)
          refine lv_iinc (v := (nI (i + 1))) (lv' := [(3, .int (nI (i + 1))), (2, .int ((pX7_linesAt_L4 u w a1 i) + (1 : Int32))), (0, .ref (A 0)), (1, .int a1)]) hx hb dX7_linesAt_34 hl (k := 3) rfl (nI_succ i).symm (by decide) rfl (fun ls hl => ?_)
          refine lv_goto (tgt := 4) hx hb dX7_linesAt_37 (by decide) ?_
          have e8 : pX7_linesAt_L4 u w a1 (i + 1) = ((pX7_linesAt_L4 u w a1 i) + (1 : Int32)) := by rw [pX7_linesAt_L4_s] <;> simp only [if_neg c_4, if_neg c_5]
          exact ih_4 (i + 1) (by omega) ls (by rw [e8]; exact lv_sub hl [2, 3, 1, 0] rfl)
  exact key_4 28 0 (Nat.zero_add 28) ls (lv_sub hl [2, 3, 1, 0] rfl)
theorem bV_X7_linesAt : BV RX7 yX7_linesAt cX7_linesAt 4 (some .int) 1 := ⟨wcd_X7_linesAt, wim_X7_linesAt, wse_X7_linesAt, win_RX7, by decide +kernel⟩
def pX7_linesOf_L5 (u : (Nat → Nat → Int32)) (w : (Nat → Int32)) (a1 : Int32) (a2 : Int32) : Nat → Int32 := fo (fun i x_i => (if (pX7_of u w (nI i) 1) = (a1 + (1 : Int32)) then (if a2 = 0 then (x_i + (1 : Int32)) else (if (pX7_isClean u w (nI i)) = 0 then (x_i + (0 : Int32)) else (x_i + (1 : Int32)))) else (x_i + (0 : Int32)))) 0
theorem pX7_linesOf_L5_s (u : (Nat → Nat → Int32)) (w : (Nat → Int32)) (a1 : Int32) (a2 : Int32) (i : Nat) : pX7_linesOf_L5 u w a1 a2 (i + 1) = (if (pX7_of u w (nI i) 1) = (a1 + (1 : Int32)) then (if a2 = 0 then ((pX7_linesOf_L5 u w a1 a2 i) + (1 : Int32)) else (if (pX7_isClean u w (nI i)) = 0 then ((pX7_linesOf_L5 u w a1 a2 i) + (0 : Int32)) else ((pX7_linesOf_L5 u w a1 a2 i) + (1 : Int32)))) else ((pX7_linesOf_L5 u w a1 a2 i) + (0 : Int32))) := rfl
theorem pX7_linesOf_L5_0 (u : (Nat → Nat → Int32)) (w : (Nat → Int32)) (a1 : Int32) (a2 : Int32) : pX7_linesOf_L5 u w a1 a2 0 = 0 := rfl
def pX7_linesOf (u : (Nat → Nat → Int32)) (w : (Nat → Int32)) (a1 : Int32) (a2 : Int32) : Int32 := (pX7_linesOf_L5 u w a1 a2 28)
set_option maxHeartbeats 4000000 in
set_option maxRecDepth 100000 in
theorem kX7_linesOf (l : Launch) (D : va_G) (cyC cyI cyO : ClassId) (A : Nat → Nat) (u : (Nat → Nat → Int32)) (w : (Nat → Int32)) (a1 : Int32) (a2 : Int32) : RO l yX7_linesOf (Ty yX7_linesOf cX7_linesOf 5 (some .int)) ({ frames := 3, cells := 0, slots := 0, locals := 64 } : Room) D cyC cyI cyO (wM cyI A u w) [.ref (A 0), .int a1, .int a2] (pX7_linesOf u w a1 a2) := by
  refine Met.ofW (cc := cX7_linesOf) (maxL := 5) (ret := (some .int)) (by decide) rfl ?_
  intro p e s m args below meth cd s₁ B hml hv
  obtain ⟨rfl, hP, hK⟩ := hv
  have hx := B.exec
  have hb := B.bytes
  have hr := B.returns
  have hts : ∀ w ∈ TB, w.before ([.ref (A 0), .int a1, .int a2] : List Value).toArray s = true := fun w h => atoms_spec (ws := (Ty yX7_linesOf cX7_linesOf 5 (some .int))) B.pre w (List.mem_cons_of_mem _ h)
  have hown : s.vm.findClass RX7 = some m.cls := findClass_of_methodNamed B.named
  have hlocks := B.notSynchronized
  have hl := lv_entry ([.ref (A 0), .int a1, .int a2]) (n := 5) (Nat.le_of_ble_eq_true rfl)
  rw [lg_entry_eq]
  generalize (lg_sl ([.ref (A 0), .int a1, .int a2]) ++ List.replicate (5 - (lg_sl ([.ref (A 0), .int a1, .int a2])).length) Slot.unset).toArray = ls at hl ⊢
  have hl : lv_has ls 5 [(0, .ref (A 0)), (1, .int a1), (2, .int a2)] := hl
  refine lv_iconst (v := 0) hx hb dX7_linesOf_0 (by decide) ?_
  refine lv_istore_n (lv' := [(3, .int 0), (0, .ref (A 0)), (1, .int a1), (2, .int a2)]) hx hb dX7_linesOf_1 rfl hl (by decide) rfl (fun ls hl => ?_)
  refine lv_iconst (v := 0) hx hb dX7_linesOf_2 (by decide) ?_
  refine lv_istore (lv' := [(4, .int 0), (3, .int 0), (0, .ref (A 0)), (1, .int a1), (2, .int a2)]) hx hb dX7_linesOf_3 hl (by decide) rfl (fun ls hl => ?_)
  have key_5 : ∀ k i : Nat, i + k = 28 → ∀ (ls : Array Slot), lv_has ls 5 [(0, .ref (A 0)), (1, .int a1), (2, .int a2), (3, .int (pX7_linesOf_L5 u w a1 a2 i)), (4, .int (nI i))] → W p l e (headSpec (Ty yX7_linesOf cX7_linesOf 5 (some .int)) ({ frames := 3, cells := 0, slots := 0, locals := 64 } : Room)).room s m ([.ref (A 0), .int a1, .int a2] : List Value).toArray below meth cd s.heap [] 0 0 (MQ below (vp_Si (fun x => x = (pX7_linesOf u w a1 a2))) ([.ref (A 0), .int a1, .int a2] : List Value).toArray s 0 0 (fun _ => False)) (F0 m 5 ls []) := by
    intro k
    induction k with
    | zero =>
      intro i hi ls hl
      obtain rfl : i = 28 := hi
      obtain ⟨z_1, hz_1⟩ : ∃ q, q = (pX7_linesOf_L5 u w a1 a2 28) := ⟨_, rfl⟩
      rw [← hz_1] at hl
      refine lv_iload hx hb dX7_linesOf_5 (lv_at hl 4 rfl) ?_
      refine lv_bipush (v := 28) hx hb dX7_linesOf_7 (by decide) ?_
      refine lv_icmp_ge (tgt := 52) hx hb dX7_linesOf_9 (by decide) (fun c_2 => ?_) (fun c_2 => absurd (le_of (C := 28) (N := 28) (by decide)) c_2)
      refine lv_iload_n hx hb dX7_linesOf_52 rfl (lv_at hl 3 rfl) ?_
      have e9 : z_1 = (pX7_linesOf u w a1 a2) := by simp only [pX7_linesOf, ← hz_1]
      exact W.iret (v := z_1) hx hb hr (fun t ht hW => ⟨_, rfl, e9, ht⟩) (fun _ h => absurd h List.not_mem_nil) dX7_linesOf_53
    | succ k ih_5 =>
      intro i hi ls hl
      have hlt : i < 28 := by omega
      refine lv_iload hx hb dX7_linesOf_5 (lv_at hl 4 rfl) ?_
      refine lv_bipush (v := 28) hx hb dX7_linesOf_7 (by decide) ?_
      refine lv_icmp_ge (tgt := 52) hx hb dX7_linesOf_9 (by decide) (fun c_3 => absurd c_3 (nle_of (C := 28) (N := 28) (by decide) hlt (by decide))) (fun c_3 => ?_)
      refine lv_iload_n hx hb dX7_linesOf_12 rfl (lv_at hl 3 rfl) ?_
      refine lv_aload_n hx hb dX7_linesOf_13 rfl (lv_at hl 0 rfl) ?_
      refine lv_iload hx hb dX7_linesOf_14 (lv_at hl 4 rfl) ?_
      refine lv_iconst (v := 1) hx hb dX7_linesOf_16 (by decide) ?_
      refine rV (As := [.int (nI i), .int 1]) (rest := [.int (pX7_linesOf_L5 u w a1 a2 i)]) hx hb hml hown hts hl.1 (kX7_of l D cyC cyI cyO A u w (nI i) 1 (vp_in_nI (Nat.lt_of_lt_of_le hlt (by decide)) (by decide)) (vp_lit (by decide))) bV_X7_of  wml_RX7_52 ⟨rfl, rfl⟩ ⟨Nat.le_of_ble_eq_true rfl, Nat.le_of_ble_eq_true rfl, Nat.zero_le _, Nat.zero_le _⟩ [0, 1, 2, 3, 4, 5, 6] rfl hP hK 0 rfl rfl rfl rfl rfl (Nat.le_of_ble_eq_true rfl) dX7_linesOf_17 ?_
      refine lv_iload_n hx hb dX7_linesOf_20 rfl (lv_at hl 1 rfl) ?_
      refine lv_iconst (v := 1) hx hb dX7_linesOf_21 (by decide) ?_
      refine lv_iadd hx hb dX7_linesOf_22 ?_
      refine lv_icmp_ne (tgt := 43) hx hb dX7_linesOf_23 (by decide) (fun c_4 => ?_) (fun c_4 => ?_)
      · refine lv_iconst (v := 0) hx hb dX7_linesOf_43 (by decide) ?_
        refine lv_iadd hx hb dX7_linesOf_44 ?_
        refine lv_istore_n (lv' := [(3, .int ((pX7_linesOf_L5 u w a1 a2 i) + (0 : Int32))), (0, .ref (A 0)), (1, .int a1), (2, .int a2), (4, .int (nI i))]) hx hb dX7_linesOf_45 rfl hl (by decide) rfl (fun ls hl => ?_)
        refine lv_iinc (v := (nI (i + 1))) (lv' := [(4, .int (nI (i + 1))), (3, .int ((pX7_linesOf_L5 u w a1 a2 i) + (0 : Int32))), (0, .ref (A 0)), (1, .int a1), (2, .int a2)]) hx hb dX7_linesOf_46 hl (k := 4) rfl (nI_succ i).symm (by decide) rfl (fun ls hl => ?_)
        refine lv_goto (tgt := 5) hx hb dX7_linesOf_49 (by decide) ?_
        have e8 : pX7_linesOf_L5 u w a1 a2 (i + 1) = ((pX7_linesOf_L5 u w a1 a2 i) + (0 : Int32)) := by rw [pX7_linesOf_L5_s] <;> simp only [if_neg c_4]
        exact ih_5 (i + 1) (by omega) ls (by rw [e8]; exact lv_sub hl [2, 3, 4, 1, 0] rfl)
      · refine lv_iload_n hx hb dX7_linesOf_26 rfl (lv_at hl 2 rfl) ?_
        refine lv_if_eq (tgt := 39) hx hb dX7_linesOf_27 (by decide) (fun c_5 => ?_) (fun c_5 => ?_)
        · refine lv_iconst (v := 1) hx hb dX7_linesOf_39 (by decide) ?_
          refine lv_goto (tgt := 44) hx hb dX7_linesOf_40 (by decide) ?_
          refine lv_iadd hx hb dX7_linesOf_44 ?_
          refine lv_istore_n (lv' := [(3, .int ((pX7_linesOf_L5 u w a1 a2 i) + (1 : Int32))), (0, .ref (A 0)), (1, .int a1), (2, .int a2), (4, .int (nI i))]) hx hb dX7_linesOf_45 rfl hl (by decide) rfl (fun ls hl => ?_)
          refine lv_iinc (v := (nI (i + 1))) (lv' := [(4, .int (nI (i + 1))), (3, .int ((pX7_linesOf_L5 u w a1 a2 i) + (1 : Int32))), (0, .ref (A 0)), (1, .int a1), (2, .int a2)]) hx hb dX7_linesOf_46 hl (k := 4) rfl (nI_succ i).symm (by decide) rfl (fun ls hl => ?_)
          refine lv_goto (tgt := 5) hx hb dX7_linesOf_49 (by decide) ?_
          have e8 : pX7_linesOf_L5 u w a1 a2 (i + 1) = ((pX7_linesOf_L5 u w a1 a2 i) + (1 : Int32)) := by rw [pX7_linesOf_L5_s] <;> simp only [if_pos c_4, if_pos c_5]
          exact ih_5 (i + 1) (by omega) ls (by rw [e8]; exact lv_sub hl [2, 3, 4, 1, 0] rfl)
        · refine lv_aload_n hx hb dX7_linesOf_30 rfl (lv_at hl 0 rfl) ?_
          refine lv_iload hx hb dX7_linesOf_31 (lv_at hl 4 rfl) ?_
          refine rV (As := [.int (nI i)]) (rest := [.int (pX7_linesOf_L5 u w a1 a2 i)]) hx hb hml hown hts hl.1 (kX7_isClean l D cyC cyI cyO A u w (nI i) (vp_in_nI (Nat.lt_of_lt_of_le hlt (by decide)) (by decide))) bV_X7_isClean  wml_RX7_88 ⟨rfl, rfl⟩ ⟨Nat.le_of_ble_eq_true rfl, Nat.le_of_ble_eq_true rfl, Nat.zero_le _, Nat.zero_le _⟩ [0, 1, 2, 3, 4, 5, 6] rfl hP hK 0 rfl rfl rfl rfl rfl (Nat.le_of_ble_eq_true rfl) dX7_linesOf_33 ?_
          refine lv_if_eq (tgt := 43) hx hb dX7_linesOf_36 (by decide) (fun c_6 => ?_) (fun c_6 => ?_)
          · refine lv_iconst (v := 0) hx hb dX7_linesOf_43 (by decide) ?_
            refine lv_iadd hx hb dX7_linesOf_44 ?_
            refine lv_istore_n (lv' := [(3, .int ((pX7_linesOf_L5 u w a1 a2 i) + (0 : Int32))), (0, .ref (A 0)), (1, .int a1), (2, .int a2), (4, .int (nI i))]) hx hb dX7_linesOf_45 rfl hl (by decide) rfl (fun ls hl => ?_)
            refine lv_iinc (v := (nI (i + 1))) (lv' := [(4, .int (nI (i + 1))), (3, .int ((pX7_linesOf_L5 u w a1 a2 i) + (0 : Int32))), (0, .ref (A 0)), (1, .int a1), (2, .int a2)]) hx hb dX7_linesOf_46 hl (k := 4) rfl (nI_succ i).symm (by decide) rfl (fun ls hl => ?_)
            refine lv_goto (tgt := 5) hx hb dX7_linesOf_49 (by decide) ?_
            have e8 : pX7_linesOf_L5 u w a1 a2 (i + 1) = ((pX7_linesOf_L5 u w a1 a2 i) + (0 : Int32)) := by rw [pX7_linesOf_L5_s] <;> simp only [if_pos c_4, if_neg c_5, if_pos c_6]
            exact ih_5 (i + 1) (by omega) ls (by rw [e8]; exact lv_sub hl [2, 3, 4, 1, 0] rfl)
          · refine lv_iconst (v := 1) hx hb dX7_linesOf_39 (by decide) ?_
            refine lv_goto (tgt := 44) hx hb dX7_linesOf_40 (by decide) ?_
            refine lv_iadd hx hb dX7_linesOf_44 ?_
            refine lv_istore_n (lv' := [(3, .int ((pX7_linesOf_L5 u w a1 a2 i) + (1 : Int32))), (0, .ref (A 0)), (1, .int a1), (2, .int a2), (4, .int (nI i))]) hx hb dX7_linesOf_45 rfl hl (by decide) rfl (fun ls hl => ?_)
            refine lv_iinc (v := (nI (i + 1))) (lv' := [(4, .int (nI (i + 1))), (3, .int ((pX7_linesOf_L5 u w a1 a2 i) + (1 : Int32))), (0, .ref (A 0)), (1, .int a1), (2, .int a2)]) hx hb dX7_linesOf_46 hl (k := 4) rfl (nI_succ i).symm (by decide) rfl (fun ls hl => ?_)
            refine lv_goto (tgt := 5) hx hb dX7_linesOf_49 (by decide) ?_
            have e8 : pX7_linesOf_L5 u w a1 a2 (i + 1) = ((pX7_linesOf_L5 u w a1 a2 i) + (1 : Int32)) := by rw [pX7_linesOf_L5_s] <;> simp only [if_pos c_4, if_neg c_5, if_neg c_6]
            exact ih_5 (i + 1) (by omega) ls (by rw [e8]; exact lv_sub hl [2, 3, 4, 1, 0] rfl)
  exact key_5 28 0 (Nat.zero_add 28) ls (lv_sub hl [2, 3, 4, 1, 0] rfl)
theorem bV_X7_linesOf : BV RX7 yX7_linesOf cX7_linesOf 5 (some .int) 2 := ⟨wcd_X7_linesOf, wim_X7_linesOf, wse_X7_linesOf, win_RX7, by decide +kernel⟩
def pX7_walksNow_L12 (u : (Nat → Nat → Int32)) (w : (Nat → Int32)) (a1 : Int32) : Nat → Int32 := fo (fun i x_i => (if (pX7_isOfRoof (nI i) (pX7_ofOwner u w a1 3)) = 0 then (x_i + (0 : Int32)) else (if (pX7_reasonToWalk u w a1 (nI i) (pX7_ofOwner u w a1 3)) = 0 then (x_i + (1 : Int32)) else (x_i + (0 : Int32))))) 0
theorem pX7_walksNow_L12_s (u : (Nat → Nat → Int32)) (w : (Nat → Int32)) (a1 : Int32) (i : Nat) : pX7_walksNow_L12 u w a1 (i + 1) = (if (pX7_isOfRoof (nI i) (pX7_ofOwner u w a1 3)) = 0 then ((pX7_walksNow_L12 u w a1 i) + (0 : Int32)) else (if (pX7_reasonToWalk u w a1 (nI i) (pX7_ofOwner u w a1 3)) = 0 then ((pX7_walksNow_L12 u w a1 i) + (1 : Int32)) else ((pX7_walksNow_L12 u w a1 i) + (0 : Int32)))) := rfl
theorem pX7_walksNow_L12_0 (u : (Nat → Nat → Int32)) (w : (Nat → Int32)) (a1 : Int32) : pX7_walksNow_L12 u w a1 0 = 0 := rfl
def pX7_walksNow (u : (Nat → Nat → Int32)) (w : (Nat → Int32)) (a1 : Int32) : Int32 := (pX7_walksNow_L12 u w a1 28)
set_option maxHeartbeats 4000000 in
set_option maxRecDepth 100000 in
theorem kX7_walksNow (l : Launch) (D : va_G) (cyC cyI cyO : ClassId) (A : Nat → Nat) (u : (Nat → Nat → Int32)) (w : (Nat → Int32)) (a1 : Int32) (ho : vp_in a1 4) : RO l yX7_walksNow (Ty yX7_walksNow cX7_walksNow 5 (some .int)) ({ frames := 3, cells := 0, slots := 0, locals := 66 } : Room) D cyC cyI cyO (wM cyI A u w) [.ref (A 0), .int a1] (pX7_walksNow u w a1) := by
  refine Met.ofW (cc := cX7_walksNow) (maxL := 5) (ret := (some .int)) (by decide) rfl ?_
  intro p e s m args below meth cd s₁ B hml hv
  obtain ⟨rfl, hP, hK⟩ := hv
  have hx := B.exec
  have hb := B.bytes
  have hr := B.returns
  have hts : ∀ w ∈ TB, w.before ([.ref (A 0), .int a1] : List Value).toArray s = true := fun w h => atoms_spec (ws := (Ty yX7_walksNow cX7_walksNow 5 (some .int))) B.pre w (List.mem_cons_of_mem _ h)
  have hown : s.vm.findClass RX7 = some m.cls := findClass_of_methodNamed B.named
  have hlocks := B.notSynchronized
  have hl := lv_entry ([.ref (A 0), .int a1]) (n := 5) (Nat.le_of_ble_eq_true rfl)
  rw [lg_entry_eq]
  generalize (lg_sl ([.ref (A 0), .int a1]) ++ List.replicate (5 - (lg_sl ([.ref (A 0), .int a1])).length) Slot.unset).toArray = ls at hl ⊢
  have hl : lv_has ls 5 [(0, .ref (A 0)), (1, .int a1)] := hl
  refine lv_iconst (v := 0) hx hb dX7_walksNow_0 (by decide) ?_
  refine lv_istore_n (lv' := [(2, .int 0), (0, .ref (A 0)), (1, .int a1)]) hx hb dX7_walksNow_1 rfl hl (by decide) rfl (fun ls hl => ?_)
  refine lv_aload_n hx hb dX7_walksNow_2 rfl (lv_at hl 1 rfl) ?_
  refine lv_iload_n hx hb dX7_walksNow_3 rfl (lv_at hl 2 rfl) ?_
  refine lv_iconst (v := 3) hx hb dX7_walksNow_4 (by decide) ?_
  refine rV (As := [.int a1, .int 3]) (rest := []) hx hb hml hown hts hl.1 (kX7_ofOwner l D cyC cyI cyO A u w a1 3 ho (vp_lit (by decide))) bV_X7_ofOwner  wml_RX7_72 ⟨rfl, rfl⟩ ⟨Nat.le_of_ble_eq_true rfl, Nat.le_of_ble_eq_true rfl, Nat.zero_le _, Nat.zero_le _⟩ [0, 1, 2, 3, 4, 5, 6] rfl hP hK 0 rfl rfl rfl rfl rfl (Nat.le_of_ble_eq_true rfl) dX7_walksNow_5 ?_
  refine lv_istore_n (lv' := [(3, .int (pX7_ofOwner u w a1 3)), (2, .int 0), (0, .ref (A 0)), (1, .int a1)]) hx hb dX7_walksNow_8 rfl hl (by decide) rfl (fun ls hl => ?_)
  refine lv_iconst (v := 0) hx hb dX7_walksNow_9 (by decide) ?_
  refine lv_istore (lv' := [(4, .int 0), (3, .int (pX7_ofOwner u w a1 3)), (2, .int 0), (0, .ref (A 0)), (1, .int a1)]) hx hb dX7_walksNow_10 hl (by decide) rfl (fun ls hl => ?_)
  have key_12 : ∀ k i : Nat, i + k = 28 → ∀ (ls : Array Slot), lv_has ls 5 [(0, .ref (A 0)), (1, .int a1), (2, .int (pX7_walksNow_L12 u w a1 i)), (3, .int (pX7_ofOwner u w a1 3)), (4, .int (nI i))] → W p l e (headSpec (Ty yX7_walksNow cX7_walksNow 5 (some .int)) ({ frames := 3, cells := 0, slots := 0, locals := 66 } : Room)).room s m ([.ref (A 0), .int a1] : List Value).toArray below meth cd s.heap [] 0 0 (MQ below (vp_Si (fun x => x = (pX7_walksNow u w a1))) ([.ref (A 0), .int a1] : List Value).toArray s 0 0 (fun _ => False)) (F0 m 12 ls []) := by
    intro k
    induction k with
    | zero =>
      intro i hi ls hl
      obtain rfl : i = 28 := hi
      obtain ⟨z_1, hz_1⟩ : ∃ q, q = (pX7_walksNow_L12 u w a1 28) := ⟨_, rfl⟩
      rw [← hz_1] at hl
      refine lv_iload hx hb dX7_walksNow_12 (lv_at hl 4 rfl) ?_
      refine lv_bipush (v := 28) hx hb dX7_walksNow_14 (by decide) ?_
      refine lv_icmp_ge (tgt := 53) hx hb dX7_walksNow_16 (by decide) (fun c_2 => ?_) (fun c_2 => absurd (le_of (C := 28) (N := 28) (by decide)) c_2)
      refine lv_iload_n hx hb dX7_walksNow_53 rfl (lv_at hl 2 rfl) ?_
      have e9 : z_1 = (pX7_walksNow u w a1) := by simp only [pX7_walksNow, ← hz_1]
      exact W.iret (v := z_1) hx hb hr (fun t ht hW => ⟨_, rfl, e9, ht⟩) (fun _ h => absurd h List.not_mem_nil) dX7_walksNow_54
    | succ k ih_12 =>
      intro i hi ls hl
      have hlt : i < 28 := by omega
      refine lv_iload hx hb dX7_walksNow_12 (lv_at hl 4 rfl) ?_
      refine lv_bipush (v := 28) hx hb dX7_walksNow_14 (by decide) ?_
      refine lv_icmp_ge (tgt := 53) hx hb dX7_walksNow_16 (by decide) (fun c_3 => absurd c_3 (nle_of (C := 28) (N := 28) (by decide) hlt (by decide))) (fun c_3 => ?_)
      refine lv_iload_n hx hb dX7_walksNow_19 rfl (lv_at hl 2 rfl) ?_
      refine lv_iload hx hb dX7_walksNow_20 (lv_at hl 4 rfl) ?_
      refine lv_iload_n hx hb dX7_walksNow_22 rfl (lv_at hl 3 rfl) ?_
      refine rS (As := [.int (nI i), .int (pX7_ofOwner u w a1 3)]) (rest := [.int (pX7_walksNow_L12 u w a1 i)]) hx hb hml hown hts hl.1 (kX7_isOfRoof l D cyC cyI cyO (nI i) (pX7_ofOwner u w a1 3)) bS_X7_isOfRoof  wml_RX7_136 ⟨rfl, rfl⟩ ⟨Nat.le_of_ble_eq_true rfl, Nat.le_of_ble_eq_true rfl, Nat.zero_le _, Nat.zero_le _⟩ [] rfl hP hK rfl rfl (Nat.le_of_ble_eq_true rfl) dX7_walksNow_23 ?_
      refine lv_if_eq (tgt := 44) hx hb dX7_walksNow_26 (by decide) (fun c_4 => ?_) (fun c_4 => ?_)
      · refine lv_iconst (v := 0) hx hb dX7_walksNow_44 (by decide) ?_
        refine lv_iadd hx hb dX7_walksNow_45 ?_
        refine lv_istore_n (lv' := [(2, .int ((pX7_walksNow_L12 u w a1 i) + (0 : Int32))), (0, .ref (A 0)), (1, .int a1), (3, .int (pX7_ofOwner u w a1 3)), (4, .int (nI i))]) hx hb dX7_walksNow_46 rfl hl (by decide) rfl (fun ls hl => ?_)
        refine lv_iinc (v := (nI (i + 1))) (lv' := [(4, .int (nI (i + 1))), (2, .int ((pX7_walksNow_L12 u w a1 i) + (0 : Int32))), (0, .ref (A 0)), (1, .int a1), (3, .int (pX7_ofOwner u w a1 3))]) hx hb dX7_walksNow_47 hl (k := 4) rfl (nI_succ i).symm (by decide) rfl (fun ls hl => ?_)
        refine lv_goto (tgt := 12) hx hb dX7_walksNow_50 (by decide) ?_
        have e8 : pX7_walksNow_L12 u w a1 (i + 1) = ((pX7_walksNow_L12 u w a1 i) + (0 : Int32)) := by rw [pX7_walksNow_L12_s] <;> simp only [if_pos c_4]
        exact ih_12 (i + 1) (by omega) ls (by rw [e8]; exact lv_sub hl [2, 3, 1, 4, 0] rfl)
      · refine lv_aload_n hx hb dX7_walksNow_29 rfl (lv_at hl 0 rfl) ?_
        refine lv_iload_n hx hb dX7_walksNow_30 rfl (lv_at hl 1 rfl) ?_
        refine lv_iload hx hb dX7_walksNow_31 (lv_at hl 4 rfl) ?_
        refine lv_iload_n hx hb dX7_walksNow_33 rfl (lv_at hl 3 rfl) ?_
        refine rV (As := [.int a1, .int (nI i), .int (pX7_ofOwner u w a1 3)]) (rest := [.int (pX7_walksNow_L12 u w a1 i)]) hx hb hml hown hts hl.1 (kX7_reasonToWalk l D cyC cyI cyO A u w a1 (nI i) (pX7_ofOwner u w a1 3) ho (vp_in_nI (Nat.lt_of_lt_of_le hlt (by decide)) (by decide))) bV_X7_reasonToWalk  wml_RX7_108 ⟨rfl, rfl⟩ ⟨Nat.le_of_ble_eq_true rfl, Nat.le_of_ble_eq_true rfl, Nat.zero_le _, Nat.zero_le _⟩ [0, 1, 2, 3, 4, 5, 6] rfl hP hK 0 rfl rfl rfl rfl rfl (Nat.le_of_ble_eq_true rfl) dX7_walksNow_34 ?_
        refine lv_if_ne (tgt := 44) hx hb dX7_walksNow_37 (by decide) (fun c_5 => ?_) (fun c_5 => ?_)
        · refine lv_iconst (v := 0) hx hb dX7_walksNow_44 (by decide) ?_
          refine lv_iadd hx hb dX7_walksNow_45 ?_
          refine lv_istore_n (lv' := [(2, .int ((pX7_walksNow_L12 u w a1 i) + (0 : Int32))), (0, .ref (A 0)), (1, .int a1), (3, .int (pX7_ofOwner u w a1 3)), (4, .int (nI i))]) hx hb dX7_walksNow_46 rfl hl (by decide) rfl (fun ls hl => ?_)
          refine lv_iinc (v := (nI (i + 1))) (lv' := [(4, .int (nI (i + 1))), (2, .int ((pX7_walksNow_L12 u w a1 i) + (0 : Int32))), (0, .ref (A 0)), (1, .int a1), (3, .int (pX7_ofOwner u w a1 3))]) hx hb dX7_walksNow_47 hl (k := 4) rfl (nI_succ i).symm (by decide) rfl (fun ls hl => ?_)
          refine lv_goto (tgt := 12) hx hb dX7_walksNow_50 (by decide) ?_
          have e8 : pX7_walksNow_L12 u w a1 (i + 1) = ((pX7_walksNow_L12 u w a1 i) + (0 : Int32)) := by rw [pX7_walksNow_L12_s] <;> simp only [if_neg c_4, if_neg c_5]
          exact ih_12 (i + 1) (by omega) ls (by rw [e8]; exact lv_sub hl [2, 3, 1, 4, 0] rfl)
        · refine lv_iconst (v := 1) hx hb dX7_walksNow_40 (by decide) ?_
          refine lv_goto (tgt := 45) hx hb dX7_walksNow_41 (by decide) ?_
          refine lv_iadd hx hb dX7_walksNow_45 ?_
          refine lv_istore_n (lv' := [(2, .int ((pX7_walksNow_L12 u w a1 i) + (1 : Int32))), (0, .ref (A 0)), (1, .int a1), (3, .int (pX7_ofOwner u w a1 3)), (4, .int (nI i))]) hx hb dX7_walksNow_46 rfl hl (by decide) rfl (fun ls hl => ?_)
          refine lv_iinc (v := (nI (i + 1))) (lv' := [(4, .int (nI (i + 1))), (2, .int ((pX7_walksNow_L12 u w a1 i) + (1 : Int32))), (0, .ref (A 0)), (1, .int a1), (3, .int (pX7_ofOwner u w a1 3))]) hx hb dX7_walksNow_47 hl (k := 4) rfl (nI_succ i).symm (by decide) rfl (fun ls hl => ?_)
          refine lv_goto (tgt := 12) hx hb dX7_walksNow_50 (by decide) ?_
          have e8 : pX7_walksNow_L12 u w a1 (i + 1) = ((pX7_walksNow_L12 u w a1 i) + (1 : Int32)) := by rw [pX7_walksNow_L12_s] <;> simp only [if_neg c_4, if_pos c_5]
          exact ih_12 (i + 1) (by omega) ls (by rw [e8]; exact lv_sub hl [2, 3, 1, 4, 0] rfl)
  exact key_12 28 0 (Nat.zero_add 28) ls (lv_sub hl [3, 4, 2, 1, 0] rfl)
theorem bV_X7_walksNow : BV RX7 yX7_walksNow cX7_walksNow 5 (some .int) 1 := ⟨wcd_X7_walksNow, wim_X7_walksNow, wse_X7_walksNow, win_RX7, by decide +kernel⟩
def pX7_hangsNow_L4 (u : (Nat → Nat → Int32)) (w : (Nat → Int32)) (a1 : Int32) : Nat → Int32 := fo (fun i x_i => (if (pX7_isGangway (nI i)) = 0 then (x_i + (0 : Int32)) else (if (pX7_reasonToHang u w a1 (nI i)) = 0 then (x_i + (1 : Int32)) else (x_i + (0 : Int32))))) 0
theorem pX7_hangsNow_L4_s (u : (Nat → Nat → Int32)) (w : (Nat → Int32)) (a1 : Int32) (i : Nat) : pX7_hangsNow_L4 u w a1 (i + 1) = (if (pX7_isGangway (nI i)) = 0 then ((pX7_hangsNow_L4 u w a1 i) + (0 : Int32)) else (if (pX7_reasonToHang u w a1 (nI i)) = 0 then ((pX7_hangsNow_L4 u w a1 i) + (1 : Int32)) else ((pX7_hangsNow_L4 u w a1 i) + (0 : Int32)))) := rfl
theorem pX7_hangsNow_L4_0 (u : (Nat → Nat → Int32)) (w : (Nat → Int32)) (a1 : Int32) : pX7_hangsNow_L4 u w a1 0 = 0 := rfl
def pX7_hangsNow (u : (Nat → Nat → Int32)) (w : (Nat → Int32)) (a1 : Int32) : Int32 := (pX7_hangsNow_L4 u w a1 28)
set_option maxHeartbeats 4000000 in
set_option maxRecDepth 100000 in
theorem kX7_hangsNow (l : Launch) (D : va_G) (cyC cyI cyO : ClassId) (A : Nat → Nat) (u : (Nat → Nat → Int32)) (w : (Nat → Int32)) (a1 : Int32) (ho : vp_in a1 4) (hm3 : ((u 0) 2) ≤ 3) : RO l yX7_hangsNow (Ty yX7_hangsNow cX7_hangsNow 4 (some .int)) ({ frames := 5, cells := 0, slots := 0, locals := 113 } : Room) D cyC cyI cyO (wM cyI A u w) [.ref (A 0), .int a1] (pX7_hangsNow u w a1) := by
  refine Met.ofW (cc := cX7_hangsNow) (maxL := 4) (ret := (some .int)) (by decide) rfl ?_
  intro p e s m args below meth cd s₁ B hml hv
  obtain ⟨rfl, hP, hK⟩ := hv
  have hx := B.exec
  have hb := B.bytes
  have hr := B.returns
  have hts : ∀ w ∈ TB, w.before ([.ref (A 0), .int a1] : List Value).toArray s = true := fun w h => atoms_spec (ws := (Ty yX7_hangsNow cX7_hangsNow 4 (some .int))) B.pre w (List.mem_cons_of_mem _ h)
  have hown : s.vm.findClass RX7 = some m.cls := findClass_of_methodNamed B.named
  have hlocks := B.notSynchronized
  have hl := lv_entry ([.ref (A 0), .int a1]) (n := 4) (Nat.le_of_ble_eq_true rfl)
  rw [lg_entry_eq]
  generalize (lg_sl ([.ref (A 0), .int a1]) ++ List.replicate (4 - (lg_sl ([.ref (A 0), .int a1])).length) Slot.unset).toArray = ls at hl ⊢
  have hl : lv_has ls 4 [(0, .ref (A 0)), (1, .int a1)] := hl
  refine lv_iconst (v := 0) hx hb dX7_hangsNow_0 (by decide) ?_
  refine lv_istore_n (lv' := [(2, .int 0), (0, .ref (A 0)), (1, .int a1)]) hx hb dX7_hangsNow_1 rfl hl (by decide) rfl (fun ls hl => ?_)
  refine lv_iconst (v := 0) hx hb dX7_hangsNow_2 (by decide) ?_
  refine lv_istore_n (lv' := [(3, .int 0), (2, .int 0), (0, .ref (A 0)), (1, .int a1)]) hx hb dX7_hangsNow_3 rfl hl (by decide) rfl (fun ls hl => ?_)
  have key_4 : ∀ k i : Nat, i + k = 28 → ∀ (ls : Array Slot), lv_has ls 4 [(0, .ref (A 0)), (1, .int a1), (2, .int (pX7_hangsNow_L4 u w a1 i)), (3, .int (nI i))] → W p l e (headSpec (Ty yX7_hangsNow cX7_hangsNow 4 (some .int)) ({ frames := 5, cells := 0, slots := 0, locals := 113 } : Room)).room s m ([.ref (A 0), .int a1] : List Value).toArray below meth cd s.heap [] 0 0 (MQ below (vp_Si (fun x => x = (pX7_hangsNow u w a1))) ([.ref (A 0), .int a1] : List Value).toArray s 0 0 (fun _ => False)) (F0 m 4 ls []) := by
    intro k
    induction k with
    | zero =>
      intro i hi ls hl
      obtain rfl : i = 28 := hi
      obtain ⟨z_1, hz_1⟩ : ∃ q, q = (pX7_hangsNow_L4 u w a1 28) := ⟨_, rfl⟩
      rw [← hz_1] at hl
      refine lv_iload_n hx hb dX7_hangsNow_4 rfl (lv_at hl 3 rfl) ?_
      refine lv_bipush (v := 28) hx hb dX7_hangsNow_5 (by decide) ?_
      refine lv_icmp_ge (tgt := 40) hx hb dX7_hangsNow_7 (by decide) (fun c_2 => ?_) (fun c_2 => absurd (le_of (C := 28) (N := 28) (by decide)) c_2)
      refine lv_iload_n hx hb dX7_hangsNow_40 rfl (lv_at hl 2 rfl) ?_
      have e9 : z_1 = (pX7_hangsNow u w a1) := by simp only [pX7_hangsNow, ← hz_1]
      exact W.iret (v := z_1) hx hb hr (fun t ht hW => ⟨_, rfl, e9, ht⟩) (fun _ h => absurd h List.not_mem_nil) dX7_hangsNow_41
    | succ k ih_4 =>
      intro i hi ls hl
      have hlt : i < 28 := by omega
      refine lv_iload_n hx hb dX7_hangsNow_4 rfl (lv_at hl 3 rfl) ?_
      refine lv_bipush (v := 28) hx hb dX7_hangsNow_5 (by decide) ?_
      refine lv_icmp_ge (tgt := 40) hx hb dX7_hangsNow_7 (by decide) (fun c_3 => absurd c_3 (nle_of (C := 28) (N := 28) (by decide) hlt (by decide))) (fun c_3 => ?_)
      refine lv_iload_n hx hb dX7_hangsNow_10 rfl (lv_at hl 2 rfl) ?_
      refine lv_iload_n hx hb dX7_hangsNow_11 rfl (lv_at hl 3 rfl) ?_
      refine rS (As := [.int (nI i)]) (rest := [.int (pX7_hangsNow_L4 u w a1 i)]) hx hb hml hown hts hl.1 (kX7_isGangway l D cyC cyI cyO (nI i)) bS_X7_isGangway  wml_RX7_29 ⟨rfl, rfl⟩ ⟨Nat.le_of_ble_eq_true rfl, Nat.le_of_ble_eq_true rfl, Nat.zero_le _, Nat.zero_le _⟩ [] rfl hP hK rfl rfl (Nat.le_of_ble_eq_true rfl) dX7_hangsNow_12 ?_
      refine lv_if_eq (tgt := 31) hx hb dX7_hangsNow_15 (by decide) (fun c_4 => ?_) (fun c_4 => ?_)
      · refine lv_iconst (v := 0) hx hb dX7_hangsNow_31 (by decide) ?_
        refine lv_iadd hx hb dX7_hangsNow_32 ?_
        refine lv_istore_n (lv' := [(2, .int ((pX7_hangsNow_L4 u w a1 i) + (0 : Int32))), (0, .ref (A 0)), (1, .int a1), (3, .int (nI i))]) hx hb dX7_hangsNow_33 rfl hl (by decide) rfl (fun ls hl => ?_)
        refine lv_iinc (v := (nI (i + 1))) (lv' := [(3, .int (nI (i + 1))), (2, .int ((pX7_hangsNow_L4 u w a1 i) + (0 : Int32))), (0, .ref (A 0)), (1, .int a1)]) hx hb dX7_hangsNow_34 hl (k := 3) rfl (nI_succ i).symm (by decide) rfl (fun ls hl => ?_)
        refine lv_goto (tgt := 4) hx hb dX7_hangsNow_37 (by decide) ?_
        have e8 : pX7_hangsNow_L4 u w a1 (i + 1) = ((pX7_hangsNow_L4 u w a1 i) + (0 : Int32)) := by rw [pX7_hangsNow_L4_s] <;> simp only [if_pos c_4]
        exact ih_4 (i + 1) (by omega) ls (by rw [e8]; exact lv_sub hl [2, 3, 1, 0] rfl)
      · refine lv_aload_n hx hb dX7_hangsNow_18 rfl (lv_at hl 0 rfl) ?_
        refine lv_iload_n hx hb dX7_hangsNow_19 rfl (lv_at hl 1 rfl) ?_
        refine lv_iload_n hx hb dX7_hangsNow_20 rfl (lv_at hl 3 rfl) ?_
        refine rV (As := [.int a1, .int (nI i)]) (rest := [.int (pX7_hangsNow_L4 u w a1 i)]) hx hb hml hown hts hl.1 (kX7_reasonToHang l D cyC cyI cyO A u w a1 (nI i) ho (vp_in_nI (Nat.lt_of_lt_of_le hlt (by decide)) (by decide)) hm3) bV_X7_reasonToHang  wml_RX7_95 ⟨rfl, rfl⟩ ⟨Nat.le_of_ble_eq_true rfl, Nat.le_of_ble_eq_true rfl, Nat.zero_le _, Nat.zero_le _⟩ [0, 1, 2, 3, 4, 5, 6] rfl hP hK 0 rfl rfl rfl rfl rfl (Nat.le_of_ble_eq_true rfl) dX7_hangsNow_21 ?_
        refine lv_if_ne (tgt := 31) hx hb dX7_hangsNow_24 (by decide) (fun c_5 => ?_) (fun c_5 => ?_)
        · refine lv_iconst (v := 0) hx hb dX7_hangsNow_31 (by decide) ?_
          refine lv_iadd hx hb dX7_hangsNow_32 ?_
          refine lv_istore_n (lv' := [(2, .int ((pX7_hangsNow_L4 u w a1 i) + (0 : Int32))), (0, .ref (A 0)), (1, .int a1), (3, .int (nI i))]) hx hb dX7_hangsNow_33 rfl hl (by decide) rfl (fun ls hl => ?_)
          refine lv_iinc (v := (nI (i + 1))) (lv' := [(3, .int (nI (i + 1))), (2, .int ((pX7_hangsNow_L4 u w a1 i) + (0 : Int32))), (0, .ref (A 0)), (1, .int a1)]) hx hb dX7_hangsNow_34 hl (k := 3) rfl (nI_succ i).symm (by decide) rfl (fun ls hl => ?_)
          refine lv_goto (tgt := 4) hx hb dX7_hangsNow_37 (by decide) ?_
          have e8 : pX7_hangsNow_L4 u w a1 (i + 1) = ((pX7_hangsNow_L4 u w a1 i) + (0 : Int32)) := by rw [pX7_hangsNow_L4_s] <;> simp only [if_neg c_4, if_neg c_5]
          exact ih_4 (i + 1) (by omega) ls (by rw [e8]; exact lv_sub hl [2, 3, 1, 0] rfl)
        · refine lv_iconst (v := 1) hx hb dX7_hangsNow_27 (by decide) ?_
          refine lv_goto (tgt := 32) hx hb dX7_hangsNow_28 (by decide) ?_
          refine lv_iadd hx hb dX7_hangsNow_32 ?_
          refine lv_istore_n (lv' := [(2, .int ((pX7_hangsNow_L4 u w a1 i) + (1 : Int32))), (0, .ref (A 0)), (1, .int a1), (3, .int (nI i))]) hx hb dX7_hangsNow_33 rfl hl (by decide) rfl (fun ls hl => ?_)
          refine lv_iinc (v := (nI (i + 1))) (lv' := [(3, .int (nI (i + 1))), (2, .int ((pX7_hangsNow_L4 u w a1 i) + (1 : Int32))), (0, .ref (A 0)), (1, .int a1)]) hx hb dX7_hangsNow_34 hl (k := 3) rfl (nI_succ i).symm (by decide) rfl (fun ls hl => ?_)
          refine lv_goto (tgt := 4) hx hb dX7_hangsNow_37 (by decide) ?_
          have e8 : pX7_hangsNow_L4 u w a1 (i + 1) = ((pX7_hangsNow_L4 u w a1 i) + (1 : Int32)) := by rw [pX7_hangsNow_L4_s] <;> simp only [if_neg c_4, if_pos c_5]
          exact ih_4 (i + 1) (by omega) ls (by rw [e8]; exact lv_sub hl [2, 3, 1, 0] rfl)
  exact key_4 28 0 (Nat.zero_add 28) ls (lv_sub hl [2, 3, 1, 0] rfl)
theorem bV_X7_hangsNow : BV RX7 yX7_hangsNow cX7_hangsNow 4 (some .int) 1 := ⟨wcd_X7_hangsNow, wim_X7_hangsNow, wse_X7_hangsNow, win_RX7, by decide +kernel⟩
def pX7_furtherFrom_L5 (u : (Nat → Nat → Int32)) (w : (Nat → Int32)) (a1 : Int32) (a2 : Int32) : Nat → Int32 := fo (fun i x_i => (if (pX7_isGangway (nI i)) = 0 then x_i else (if (pX7_isIn a2 (pX7_lesserOf (nI i))) = 0 then (if (pX7_isIn a2 (pX7_greaterOf (nI i))) = 0 then ((x_i ||| (0 : Int32)) ||| (0 : Int32)) else (if (pX7_reasonToWalk u w a1 (nI i) (pX7_greaterOf (nI i))) = 0 then ((x_i ||| (0 : Int32)) ||| ((1 : Int32) <<< ((pX7_lesserOf (nI i)) &&& 31))) else ((x_i ||| (0 : Int32)) ||| (0 : Int32)))) else (if (pX7_reasonToWalk u w a1 (nI i) (pX7_lesserOf (nI i))) = 0 then (if (pX7_isIn a2 (pX7_greaterOf (nI i))) = 0 then ((x_i ||| ((1 : Int32) <<< ((pX7_greaterOf (nI i)) &&& 31))) ||| (0 : Int32)) else (if (pX7_reasonToWalk u w a1 (nI i) (pX7_greaterOf (nI i))) = 0 then ((x_i ||| ((1 : Int32) <<< ((pX7_greaterOf (nI i)) &&& 31))) ||| ((1 : Int32) <<< ((pX7_lesserOf (nI i)) &&& 31))) else ((x_i ||| ((1 : Int32) <<< ((pX7_greaterOf (nI i)) &&& 31))) ||| (0 : Int32)))) else (if (pX7_isIn a2 (pX7_greaterOf (nI i))) = 0 then ((x_i ||| (0 : Int32)) ||| (0 : Int32)) else (if (pX7_reasonToWalk u w a1 (nI i) (pX7_greaterOf (nI i))) = 0 then ((x_i ||| (0 : Int32)) ||| ((1 : Int32) <<< ((pX7_lesserOf (nI i)) &&& 31))) else ((x_i ||| (0 : Int32)) ||| (0 : Int32)))))))) a2
theorem pX7_furtherFrom_L5_s (u : (Nat → Nat → Int32)) (w : (Nat → Int32)) (a1 : Int32) (a2 : Int32) (i : Nat) : pX7_furtherFrom_L5 u w a1 a2 (i + 1) = (if (pX7_isGangway (nI i)) = 0 then (pX7_furtherFrom_L5 u w a1 a2 i) else (if (pX7_isIn a2 (pX7_lesserOf (nI i))) = 0 then (if (pX7_isIn a2 (pX7_greaterOf (nI i))) = 0 then (((pX7_furtherFrom_L5 u w a1 a2 i) ||| (0 : Int32)) ||| (0 : Int32)) else (if (pX7_reasonToWalk u w a1 (nI i) (pX7_greaterOf (nI i))) = 0 then (((pX7_furtherFrom_L5 u w a1 a2 i) ||| (0 : Int32)) ||| ((1 : Int32) <<< ((pX7_lesserOf (nI i)) &&& 31))) else (((pX7_furtherFrom_L5 u w a1 a2 i) ||| (0 : Int32)) ||| (0 : Int32)))) else (if (pX7_reasonToWalk u w a1 (nI i) (pX7_lesserOf (nI i))) = 0 then (if (pX7_isIn a2 (pX7_greaterOf (nI i))) = 0 then (((pX7_furtherFrom_L5 u w a1 a2 i) ||| ((1 : Int32) <<< ((pX7_greaterOf (nI i)) &&& 31))) ||| (0 : Int32)) else (if (pX7_reasonToWalk u w a1 (nI i) (pX7_greaterOf (nI i))) = 0 then (((pX7_furtherFrom_L5 u w a1 a2 i) ||| ((1 : Int32) <<< ((pX7_greaterOf (nI i)) &&& 31))) ||| ((1 : Int32) <<< ((pX7_lesserOf (nI i)) &&& 31))) else (((pX7_furtherFrom_L5 u w a1 a2 i) ||| ((1 : Int32) <<< ((pX7_greaterOf (nI i)) &&& 31))) ||| (0 : Int32)))) else (if (pX7_isIn a2 (pX7_greaterOf (nI i))) = 0 then (((pX7_furtherFrom_L5 u w a1 a2 i) ||| (0 : Int32)) ||| (0 : Int32)) else (if (pX7_reasonToWalk u w a1 (nI i) (pX7_greaterOf (nI i))) = 0 then (((pX7_furtherFrom_L5 u w a1 a2 i) ||| (0 : Int32)) ||| ((1 : Int32) <<< ((pX7_lesserOf (nI i)) &&& 31))) else (((pX7_furtherFrom_L5 u w a1 a2 i) ||| (0 : Int32)) ||| (0 : Int32))))))) := rfl
theorem pX7_furtherFrom_L5_0 (u : (Nat → Nat → Int32)) (w : (Nat → Int32)) (a1 : Int32) (a2 : Int32) : pX7_furtherFrom_L5 u w a1 a2 0 = a2 := rfl
def pX7_furtherFrom (u : (Nat → Nat → Int32)) (w : (Nat → Int32)) (a1 : Int32) (a2 : Int32) : Int32 := (pX7_furtherFrom_L5 u w a1 a2 28)
set_option maxHeartbeats 4000000 in
set_option maxRecDepth 100000 in
theorem kX7_furtherFrom (l : Launch) (D : va_G) (cyC cyI cyO : ClassId) (A : Nat → Nat) (u : (Nat → Nat → Int32)) (w : (Nat → Int32)) (a1 : Int32) (a2 : Int32) (ho : vp_in a1 4) : RO l yX7_furtherFrom (Ty yX7_furtherFrom cX7_furtherFrom 7 (some .int)) ({ frames := 3, cells := 0, slots := 0, locals := 66 } : Room) D cyC cyI cyO (wM cyI A u w) [.ref (A 0), .int a1, .int a2] (pX7_furtherFrom u w a1 a2) := by
  refine Met.ofW (cc := cX7_furtherFrom) (maxL := 7) (ret := (some .int)) (by decide) rfl ?_
  intro p e s m args below meth cd s₁ B hml hv
  obtain ⟨rfl, hP, hK⟩ := hv
  have hx := B.exec
  have hb := B.bytes
  have hr := B.returns
  have hts : ∀ w ∈ TB, w.before ([.ref (A 0), .int a1, .int a2] : List Value).toArray s = true := fun w h => atoms_spec (ws := (Ty yX7_furtherFrom cX7_furtherFrom 7 (some .int))) B.pre w (List.mem_cons_of_mem _ h)
  have hown : s.vm.findClass RX7 = some m.cls := findClass_of_methodNamed B.named
  have hlocks := B.notSynchronized
  have hl := lv_entry ([.ref (A 0), .int a1, .int a2]) (n := 7) (Nat.le_of_ble_eq_true rfl)
  rw [lg_entry_eq]
  generalize (lg_sl ([.ref (A 0), .int a1, .int a2]) ++ List.replicate (7 - (lg_sl ([.ref (A 0), .int a1, .int a2])).length) Slot.unset).toArray = ls at hl ⊢
  have hl : lv_has ls 7 [(0, .ref (A 0)), (1, .int a1), (2, .int a2)] := hl
  refine lv_iload_n hx hb dX7_furtherFrom_0 rfl (lv_at hl 2 rfl) ?_
  refine lv_istore_n (lv' := [(3, .int a2), (0, .ref (A 0)), (1, .int a1), (2, .int a2)]) hx hb dX7_furtherFrom_1 rfl hl (by decide) rfl (fun ls hl => ?_)
  refine lv_iconst (v := 0) hx hb dX7_furtherFrom_2 (by decide) ?_
  refine lv_istore (lv' := [(4, .int 0), (3, .int a2), (0, .ref (A 0)), (1, .int a1), (2, .int a2)]) hx hb dX7_furtherFrom_3 hl (by decide) rfl (fun ls hl => ?_)
  have key_5 : ∀ k i : Nat, i + k = 28 → ∀ (ls : Array Slot), lv_has ls 7 [(0, .ref (A 0)), (1, .int a1), (2, .int a2), (3, .int (pX7_furtherFrom_L5 u w a1 a2 i)), (4, .int (nI i))] → W p l e (headSpec (Ty yX7_furtherFrom cX7_furtherFrom 7 (some .int)) ({ frames := 3, cells := 0, slots := 0, locals := 66 } : Room)).room s m ([.ref (A 0), .int a1, .int a2] : List Value).toArray below meth cd s.heap [] 0 0 (MQ below (vp_Si (fun x => x = (pX7_furtherFrom u w a1 a2))) ([.ref (A 0), .int a1, .int a2] : List Value).toArray s 0 0 (fun _ => False)) (F0 m 5 ls []) := by
    intro k
    induction k with
    | zero =>
      intro i hi ls hl
      obtain rfl : i = 28 := hi
      obtain ⟨z_1, hz_1⟩ : ∃ q, q = (pX7_furtherFrom_L5 u w a1 a2 28) := ⟨_, rfl⟩
      rw [← hz_1] at hl
      refine lv_iload hx hb dX7_furtherFrom_5 (lv_at hl 4 rfl) ?_
      refine lv_bipush (v := 28) hx hb dX7_furtherFrom_7 (by decide) ?_
      refine lv_icmp_ge (tgt := 104) hx hb dX7_furtherFrom_9 (by decide) (fun c_2 => ?_) (fun c_2 => absurd (le_of (C := 28) (N := 28) (by decide)) c_2)
      refine lv_iload_n hx hb dX7_furtherFrom_104 rfl (lv_at hl 3 rfl) ?_
      have e9 : z_1 = (pX7_furtherFrom u w a1 a2) := by simp only [pX7_furtherFrom, ← hz_1]
      exact W.iret (v := z_1) hx hb hr (fun t ht hW => ⟨_, rfl, e9, ht⟩) (fun _ h => absurd h List.not_mem_nil) dX7_furtherFrom_105
    | succ k ih_5 =>
      intro i hi ls hl
      have hlt : i < 28 := by omega
      refine lv_iload hx hb dX7_furtherFrom_5 (lv_at hl 4 rfl) ?_
      refine lv_bipush (v := 28) hx hb dX7_furtherFrom_7 (by decide) ?_
      refine lv_icmp_ge (tgt := 104) hx hb dX7_furtherFrom_9 (by decide) (fun c_3 => absurd c_3 (nle_of (C := 28) (N := 28) (by decide) hlt (by decide))) (fun c_3 => ?_)
      refine lv_iload hx hb dX7_furtherFrom_12 (lv_at hl 4 rfl) ?_
      refine rS (As := [.int (nI i)]) (rest := []) hx hb hml hown hts hl.1 (kX7_lesserOf l D cyC cyI cyO (nI i)) bS_X7_lesserOf  wml_RX7_45 ⟨rfl, rfl⟩ ⟨Nat.le_of_ble_eq_true rfl, Nat.le_of_ble_eq_true rfl, Nat.zero_le _, Nat.zero_le _⟩ [] rfl hP hK rfl rfl (Nat.le_of_ble_eq_true rfl) dX7_furtherFrom_14 ?_
      refine lv_istore (lv' := [(5, .int (pX7_lesserOf (nI i))), (0, .ref (A 0)), (1, .int a1), (2, .int a2), (3, .int (pX7_furtherFrom_L5 u w a1 a2 i)), (4, .int (nI i))]) hx hb dX7_furtherFrom_17 hl (by decide) rfl (fun ls hl => ?_)
      refine lv_iload hx hb dX7_furtherFrom_19 (lv_at hl 5 rfl) ?_
      refine rS (As := [.int (nI i)]) (rest := []) hx hb hml hown hts hl.1 (kX7_greaterOf l D cyC cyI cyO (nI i)) bS_X7_greaterOf  wml_RX7_49 ⟨rfl, rfl⟩ ⟨Nat.le_of_ble_eq_true rfl, Nat.le_of_ble_eq_true rfl, Nat.zero_le _, Nat.zero_le _⟩ [] rfl hP hK rfl rfl (Nat.le_of_ble_eq_true rfl) dX7_furtherFrom_21 ?_
      refine lv_istore (lv' := [(6, .int (pX7_greaterOf (nI i))), (5, .int (pX7_lesserOf (nI i))), (0, .ref (A 0)), (1, .int a1), (2, .int a2), (3, .int (pX7_furtherFrom_L5 u w a1 a2 i)), (4, .int (nI i))]) hx hb dX7_furtherFrom_24 hl (by decide) rfl (fun ls hl => ?_)
      refine lv_iload hx hb dX7_furtherFrom_26 (lv_at hl 6 rfl) ?_
      refine rS (As := [.int (nI i)]) (rest := []) hx hb hml hown hts hl.1 (kX7_isGangway l D cyC cyI cyO (nI i)) bS_X7_isGangway  wml_RX7_29 ⟨rfl, rfl⟩ ⟨Nat.le_of_ble_eq_true rfl, Nat.le_of_ble_eq_true rfl, Nat.zero_le _, Nat.zero_le _⟩ [] rfl hP hK rfl rfl (Nat.le_of_ble_eq_true rfl) dX7_furtherFrom_28 ?_
      refine lv_if_eq (tgt := 98) hx hb dX7_furtherFrom_31 (by decide) (fun c_4 => ?_) (fun c_4 => ?_)
      · refine lv_iinc (v := (nI (i + 1))) (lv' := [(4, .int (nI (i + 1))), (6, .int (pX7_greaterOf (nI i))), (5, .int (pX7_lesserOf (nI i))), (0, .ref (A 0)), (1, .int a1), (2, .int a2), (3, .int (pX7_furtherFrom_L5 u w a1 a2 i))]) hx hb dX7_furtherFrom_98 hl (k := 6) rfl (nI_succ i).symm (by decide) rfl (fun ls hl => ?_)
        refine lv_goto (tgt := 5) hx hb dX7_furtherFrom_101 (by decide) ?_
        have e8 : pX7_furtherFrom_L5 u w a1 a2 (i + 1) = (pX7_furtherFrom_L5 u w a1 a2 i) := by rw [pX7_furtherFrom_L5_s] <;> simp only [if_pos c_4]
        exact ih_5 (i + 1) (by omega) ls (by rw [e8]; exact lv_sub hl [3, 4, 5, 6, 0] rfl)
      · refine lv_iload_n hx hb dX7_furtherFrom_34 rfl (lv_at hl 5 rfl) ?_
        refine lv_iload_n hx hb dX7_furtherFrom_35 rfl (lv_at hl 4 rfl) ?_
        refine lv_iload hx hb dX7_furtherFrom_36 (lv_at hl 1 rfl) ?_
        refine rS (As := [.int a2, .int (pX7_lesserOf (nI i))]) (rest := [.int (pX7_furtherFrom_L5 u w a1 a2 i)]) hx hb hml hown hts hl.1 (kX7_isIn l D cyC cyI cyO a2 (pX7_lesserOf (nI i))) bS_X7_isIn  wml_RX7_62 ⟨rfl, rfl⟩ ⟨Nat.le_of_ble_eq_true rfl, Nat.le_of_ble_eq_true rfl, Nat.zero_le _, Nat.zero_le _⟩ [] rfl hP hK rfl rfl (Nat.le_of_ble_eq_true rfl) dX7_furtherFrom_38 ?_
        refine lv_if_eq (tgt := 63) hx hb dX7_furtherFrom_41 (by decide) (fun c_5 => ?_) (fun c_5 => ?_)
        · refine lv_iconst (v := 0) hx hb dX7_furtherFrom_63 (by decide) ?_
          refine lv_ior hx hb dX7_furtherFrom_64 ?_
          refine lv_istore_n (lv' := [(3, .int ((pX7_furtherFrom_L5 u w a1 a2 i) ||| (0 : Int32))), (6, .int (pX7_greaterOf (nI i))), (5, .int (pX7_lesserOf (nI i))), (0, .ref (A 0)), (1, .int a1), (2, .int a2), (4, .int (nI i))]) hx hb dX7_furtherFrom_65 rfl hl (by decide) rfl (fun ls hl => ?_)
          refine lv_iload_n hx hb dX7_furtherFrom_66 rfl (lv_at hl 0 rfl) ?_
          refine lv_iload_n hx hb dX7_furtherFrom_67 rfl (lv_at hl 5 rfl) ?_
          refine lv_iload hx hb dX7_furtherFrom_68 (lv_at hl 1 rfl) ?_
          refine rS (As := [.int a2, .int (pX7_greaterOf (nI i))]) (rest := [.int ((pX7_furtherFrom_L5 u w a1 a2 i) ||| (0 : Int32))]) hx hb hml hown hts hl.1 (kX7_isIn l D cyC cyI cyO a2 (pX7_greaterOf (nI i))) bS_X7_isIn  wml_RX7_62 ⟨rfl, rfl⟩ ⟨Nat.le_of_ble_eq_true rfl, Nat.le_of_ble_eq_true rfl, Nat.zero_le _, Nat.zero_le _⟩ [] rfl hP hK rfl rfl (Nat.le_of_ble_eq_true rfl) dX7_furtherFrom_70 ?_
          refine lv_if_eq (tgt := 95) hx hb dX7_furtherFrom_73 (by decide) (fun c_6 => ?_) (fun c_6 => ?_)
          · refine lv_iconst (v := 0) hx hb dX7_furtherFrom_95 (by decide) ?_
            refine lv_ior hx hb dX7_furtherFrom_96 ?_
            refine lv_istore_n (lv' := [(3, .int (((pX7_furtherFrom_L5 u w a1 a2 i) ||| (0 : Int32)) ||| (0 : Int32))), (6, .int (pX7_greaterOf (nI i))), (5, .int (pX7_lesserOf (nI i))), (0, .ref (A 0)), (1, .int a1), (2, .int a2), (4, .int (nI i))]) hx hb dX7_furtherFrom_97 rfl hl (by decide) rfl (fun ls hl => ?_)
            refine lv_iinc (v := (nI (i + 1))) (lv' := [(4, .int (nI (i + 1))), (3, .int (((pX7_furtherFrom_L5 u w a1 a2 i) ||| (0 : Int32)) ||| (0 : Int32))), (6, .int (pX7_greaterOf (nI i))), (5, .int (pX7_lesserOf (nI i))), (0, .ref (A 0)), (1, .int a1), (2, .int a2)]) hx hb dX7_furtherFrom_98 hl (k := 6) rfl (nI_succ i).symm (by decide) rfl (fun ls hl => ?_)
            refine lv_goto (tgt := 5) hx hb dX7_furtherFrom_101 (by decide) ?_
            have e8 : pX7_furtherFrom_L5 u w a1 a2 (i + 1) = (((pX7_furtherFrom_L5 u w a1 a2 i) ||| (0 : Int32)) ||| (0 : Int32)) := by rw [pX7_furtherFrom_L5_s] <;> simp only [if_neg c_4, if_pos c_5, if_pos c_6]
            exact ih_5 (i + 1) (by omega) ls (by rw [e8]; exact lv_sub hl [4, 5, 6, 1, 0] rfl)
          · refine lv_aload_n hx hb dX7_furtherFrom_76 rfl (lv_at hl 3 rfl) ?_
            refine lv_iload_n hx hb dX7_furtherFrom_77 rfl (lv_at hl 4 rfl) ?_
            refine lv_iload hx hb dX7_furtherFrom_78 (lv_at hl 6 rfl) ?_
            refine lv_iload hx hb dX7_furtherFrom_80 (lv_at hl 1 rfl) ?_
            refine rV (As := [.int a1, .int (nI i), .int (pX7_greaterOf (nI i))]) (rest := [.int ((pX7_furtherFrom_L5 u w a1 a2 i) ||| (0 : Int32))]) hx hb hml hown hts hl.1 (kX7_reasonToWalk l D cyC cyI cyO A u w a1 (nI i) (pX7_greaterOf (nI i)) ho (vp_in_nI (Nat.lt_of_lt_of_le hlt (by decide)) (by decide))) bV_X7_reasonToWalk  wml_RX7_108 ⟨rfl, rfl⟩ ⟨Nat.le_of_ble_eq_true rfl, Nat.le_of_ble_eq_true rfl, Nat.zero_le _, Nat.zero_le _⟩ [0, 1, 2, 3, 4, 5, 6] rfl hP hK 0 rfl rfl rfl rfl rfl (Nat.le_of_ble_eq_true rfl) dX7_furtherFrom_82 ?_
            refine lv_if_ne (tgt := 95) hx hb dX7_furtherFrom_85 (by decide) (fun c_7 => ?_) (fun c_7 => ?_)
            · refine lv_iconst (v := 0) hx hb dX7_furtherFrom_95 (by decide) ?_
              refine lv_ior hx hb dX7_furtherFrom_96 ?_
              refine lv_istore_n (lv' := [(3, .int (((pX7_furtherFrom_L5 u w a1 a2 i) ||| (0 : Int32)) ||| (0 : Int32))), (6, .int (pX7_greaterOf (nI i))), (5, .int (pX7_lesserOf (nI i))), (0, .ref (A 0)), (1, .int a1), (2, .int a2), (4, .int (nI i))]) hx hb dX7_furtherFrom_97 rfl hl (by decide) rfl (fun ls hl => ?_)
              refine lv_iinc (v := (nI (i + 1))) (lv' := [(4, .int (nI (i + 1))), (3, .int (((pX7_furtherFrom_L5 u w a1 a2 i) ||| (0 : Int32)) ||| (0 : Int32))), (6, .int (pX7_greaterOf (nI i))), (5, .int (pX7_lesserOf (nI i))), (0, .ref (A 0)), (1, .int a1), (2, .int a2)]) hx hb dX7_furtherFrom_98 hl (k := 6) rfl (nI_succ i).symm (by decide) rfl (fun ls hl => ?_)
              refine lv_goto (tgt := 5) hx hb dX7_furtherFrom_101 (by decide) ?_
              have e8 : pX7_furtherFrom_L5 u w a1 a2 (i + 1) = (((pX7_furtherFrom_L5 u w a1 a2 i) ||| (0 : Int32)) ||| (0 : Int32)) := by rw [pX7_furtherFrom_L5_s] <;> simp only [if_neg c_4, if_pos c_5, if_neg c_6, if_neg c_7]
              exact ih_5 (i + 1) (by omega) ls (by rw [e8]; exact lv_sub hl [4, 5, 6, 1, 0] rfl)
            · refine lv_iconst (v := 1) hx hb dX7_furtherFrom_88 (by decide) ?_
              refine lv_iload hx hb dX7_furtherFrom_89 (lv_at hl 2 rfl) ?_
              refine lv_ishl hx hb dX7_furtherFrom_91 ?_
              refine lv_goto (tgt := 96) hx hb dX7_furtherFrom_92 (by decide) ?_
              refine lv_ior hx hb dX7_furtherFrom_96 ?_
              refine lv_istore_n (lv' := [(3, .int (((pX7_furtherFrom_L5 u w a1 a2 i) ||| (0 : Int32)) ||| ((1 : Int32) <<< ((pX7_lesserOf (nI i)) &&& 31)))), (6, .int (pX7_greaterOf (nI i))), (5, .int (pX7_lesserOf (nI i))), (0, .ref (A 0)), (1, .int a1), (2, .int a2), (4, .int (nI i))]) hx hb dX7_furtherFrom_97 rfl hl (by decide) rfl (fun ls hl => ?_)
              refine lv_iinc (v := (nI (i + 1))) (lv' := [(4, .int (nI (i + 1))), (3, .int (((pX7_furtherFrom_L5 u w a1 a2 i) ||| (0 : Int32)) ||| ((1 : Int32) <<< ((pX7_lesserOf (nI i)) &&& 31)))), (6, .int (pX7_greaterOf (nI i))), (5, .int (pX7_lesserOf (nI i))), (0, .ref (A 0)), (1, .int a1), (2, .int a2)]) hx hb dX7_furtherFrom_98 hl (k := 6) rfl (nI_succ i).symm (by decide) rfl (fun ls hl => ?_)
              refine lv_goto (tgt := 5) hx hb dX7_furtherFrom_101 (by decide) ?_
              have e8 : pX7_furtherFrom_L5 u w a1 a2 (i + 1) = (((pX7_furtherFrom_L5 u w a1 a2 i) ||| (0 : Int32)) ||| ((1 : Int32) <<< ((pX7_lesserOf (nI i)) &&& 31))) := by rw [pX7_furtherFrom_L5_s] <;> simp only [if_neg c_4, if_pos c_5, if_neg c_6, if_pos c_7]
              exact ih_5 (i + 1) (by omega) ls (by rw [e8]; exact lv_sub hl [4, 5, 6, 1, 0] rfl)
        · refine lv_aload_n hx hb dX7_furtherFrom_44 rfl (lv_at hl 2 rfl) ?_
          refine lv_iload_n hx hb dX7_furtherFrom_45 rfl (lv_at hl 3 rfl) ?_
          refine lv_iload hx hb dX7_furtherFrom_46 (lv_at hl 6 rfl) ?_
          refine lv_iload hx hb dX7_furtherFrom_48 (lv_at hl 1 rfl) ?_
          refine rV (As := [.int a1, .int (nI i), .int (pX7_lesserOf (nI i))]) (rest := [.int (pX7_furtherFrom_L5 u w a1 a2 i)]) hx hb hml hown hts hl.1 (kX7_reasonToWalk l D cyC cyI cyO A u w a1 (nI i) (pX7_lesserOf (nI i)) ho (vp_in_nI (Nat.lt_of_lt_of_le hlt (by decide)) (by decide))) bV_X7_reasonToWalk  wml_RX7_108 ⟨rfl, rfl⟩ ⟨Nat.le_of_ble_eq_true rfl, Nat.le_of_ble_eq_true rfl, Nat.zero_le _, Nat.zero_le _⟩ [0, 1, 2, 3, 4, 5, 6] rfl hP hK 0 rfl rfl rfl rfl rfl (Nat.le_of_ble_eq_true rfl) dX7_furtherFrom_50 ?_
          refine lv_if_ne (tgt := 63) hx hb dX7_furtherFrom_53 (by decide) (fun c_8 => ?_) (fun c_8 => ?_)
          · refine lv_iconst (v := 0) hx hb dX7_furtherFrom_63 (by decide) ?_
            refine lv_ior hx hb dX7_furtherFrom_64 ?_
            refine lv_istore_n (lv' := [(3, .int ((pX7_furtherFrom_L5 u w a1 a2 i) ||| (0 : Int32))), (6, .int (pX7_greaterOf (nI i))), (5, .int (pX7_lesserOf (nI i))), (0, .ref (A 0)), (1, .int a1), (2, .int a2), (4, .int (nI i))]) hx hb dX7_furtherFrom_65 rfl hl (by decide) rfl (fun ls hl => ?_)
            refine lv_iload_n hx hb dX7_furtherFrom_66 rfl (lv_at hl 0 rfl) ?_
            refine lv_iload_n hx hb dX7_furtherFrom_67 rfl (lv_at hl 5 rfl) ?_
            refine lv_iload hx hb dX7_furtherFrom_68 (lv_at hl 1 rfl) ?_
            refine rS (As := [.int a2, .int (pX7_greaterOf (nI i))]) (rest := [.int ((pX7_furtherFrom_L5 u w a1 a2 i) ||| (0 : Int32))]) hx hb hml hown hts hl.1 (kX7_isIn l D cyC cyI cyO a2 (pX7_greaterOf (nI i))) bS_X7_isIn  wml_RX7_62 ⟨rfl, rfl⟩ ⟨Nat.le_of_ble_eq_true rfl, Nat.le_of_ble_eq_true rfl, Nat.zero_le _, Nat.zero_le _⟩ [] rfl hP hK rfl rfl (Nat.le_of_ble_eq_true rfl) dX7_furtherFrom_70 ?_
            refine lv_if_eq (tgt := 95) hx hb dX7_furtherFrom_73 (by decide) (fun c_9 => ?_) (fun c_9 => ?_)
            · refine lv_iconst (v := 0) hx hb dX7_furtherFrom_95 (by decide) ?_
              refine lv_ior hx hb dX7_furtherFrom_96 ?_
              refine lv_istore_n (lv' := [(3, .int (((pX7_furtherFrom_L5 u w a1 a2 i) ||| (0 : Int32)) ||| (0 : Int32))), (6, .int (pX7_greaterOf (nI i))), (5, .int (pX7_lesserOf (nI i))), (0, .ref (A 0)), (1, .int a1), (2, .int a2), (4, .int (nI i))]) hx hb dX7_furtherFrom_97 rfl hl (by decide) rfl (fun ls hl => ?_)
              refine lv_iinc (v := (nI (i + 1))) (lv' := [(4, .int (nI (i + 1))), (3, .int (((pX7_furtherFrom_L5 u w a1 a2 i) ||| (0 : Int32)) ||| (0 : Int32))), (6, .int (pX7_greaterOf (nI i))), (5, .int (pX7_lesserOf (nI i))), (0, .ref (A 0)), (1, .int a1), (2, .int a2)]) hx hb dX7_furtherFrom_98 hl (k := 6) rfl (nI_succ i).symm (by decide) rfl (fun ls hl => ?_)
              refine lv_goto (tgt := 5) hx hb dX7_furtherFrom_101 (by decide) ?_
              have e8 : pX7_furtherFrom_L5 u w a1 a2 (i + 1) = (((pX7_furtherFrom_L5 u w a1 a2 i) ||| (0 : Int32)) ||| (0 : Int32)) := by rw [pX7_furtherFrom_L5_s] <;> simp only [if_neg c_4, if_neg c_5, if_neg c_8, if_pos c_9]
              exact ih_5 (i + 1) (by omega) ls (by rw [e8]; exact lv_sub hl [4, 5, 6, 1, 0] rfl)
            · refine lv_aload_n hx hb dX7_furtherFrom_76 rfl (lv_at hl 3 rfl) ?_
              refine lv_iload_n hx hb dX7_furtherFrom_77 rfl (lv_at hl 4 rfl) ?_
              refine lv_iload hx hb dX7_furtherFrom_78 (lv_at hl 6 rfl) ?_
              refine lv_iload hx hb dX7_furtherFrom_80 (lv_at hl 1 rfl) ?_
              refine rV (As := [.int a1, .int (nI i), .int (pX7_greaterOf (nI i))]) (rest := [.int ((pX7_furtherFrom_L5 u w a1 a2 i) ||| (0 : Int32))]) hx hb hml hown hts hl.1 (kX7_reasonToWalk l D cyC cyI cyO A u w a1 (nI i) (pX7_greaterOf (nI i)) ho (vp_in_nI (Nat.lt_of_lt_of_le hlt (by decide)) (by decide))) bV_X7_reasonToWalk  wml_RX7_108 ⟨rfl, rfl⟩ ⟨Nat.le_of_ble_eq_true rfl, Nat.le_of_ble_eq_true rfl, Nat.zero_le _, Nat.zero_le _⟩ [0, 1, 2, 3, 4, 5, 6] rfl hP hK 0 rfl rfl rfl rfl rfl (Nat.le_of_ble_eq_true rfl) dX7_furtherFrom_82 ?_
              refine lv_if_ne (tgt := 95) hx hb dX7_furtherFrom_85 (by decide) (fun c_10 => ?_) (fun c_10 => ?_)
              · refine lv_iconst (v := 0) hx hb dX7_furtherFrom_95 (by decide) ?_
                refine lv_ior hx hb dX7_furtherFrom_96 ?_
                refine lv_istore_n (lv' := [(3, .int (((pX7_furtherFrom_L5 u w a1 a2 i) ||| (0 : Int32)) ||| (0 : Int32))), (6, .int (pX7_greaterOf (nI i))), (5, .int (pX7_lesserOf (nI i))), (0, .ref (A 0)), (1, .int a1), (2, .int a2), (4, .int (nI i))]) hx hb dX7_furtherFrom_97 rfl hl (by decide) rfl (fun ls hl => ?_)
                refine lv_iinc (v := (nI (i + 1))) (lv' := [(4, .int (nI (i + 1))), (3, .int (((pX7_furtherFrom_L5 u w a1 a2 i) ||| (0 : Int32)) ||| (0 : Int32))), (6, .int (pX7_greaterOf (nI i))), (5, .int (pX7_lesserOf (nI i))), (0, .ref (A 0)), (1, .int a1), (2, .int a2)]) hx hb dX7_furtherFrom_98 hl (k := 6) rfl (nI_succ i).symm (by decide) rfl (fun ls hl => ?_)
                refine lv_goto (tgt := 5) hx hb dX7_furtherFrom_101 (by decide) ?_
                have e8 : pX7_furtherFrom_L5 u w a1 a2 (i + 1) = (((pX7_furtherFrom_L5 u w a1 a2 i) ||| (0 : Int32)) ||| (0 : Int32)) := by rw [pX7_furtherFrom_L5_s] <;> simp only [if_neg c_4, if_neg c_5, if_neg c_8, if_neg c_9, if_neg c_10]
                exact ih_5 (i + 1) (by omega) ls (by rw [e8]; exact lv_sub hl [4, 5, 6, 1, 0] rfl)
              · refine lv_iconst (v := 1) hx hb dX7_furtherFrom_88 (by decide) ?_
                refine lv_iload hx hb dX7_furtherFrom_89 (lv_at hl 2 rfl) ?_
                refine lv_ishl hx hb dX7_furtherFrom_91 ?_
                refine lv_goto (tgt := 96) hx hb dX7_furtherFrom_92 (by decide) ?_
                refine lv_ior hx hb dX7_furtherFrom_96 ?_
                refine lv_istore_n (lv' := [(3, .int (((pX7_furtherFrom_L5 u w a1 a2 i) ||| (0 : Int32)) ||| ((1 : Int32) <<< ((pX7_lesserOf (nI i)) &&& 31)))), (6, .int (pX7_greaterOf (nI i))), (5, .int (pX7_lesserOf (nI i))), (0, .ref (A 0)), (1, .int a1), (2, .int a2), (4, .int (nI i))]) hx hb dX7_furtherFrom_97 rfl hl (by decide) rfl (fun ls hl => ?_)
                refine lv_iinc (v := (nI (i + 1))) (lv' := [(4, .int (nI (i + 1))), (3, .int (((pX7_furtherFrom_L5 u w a1 a2 i) ||| (0 : Int32)) ||| ((1 : Int32) <<< ((pX7_lesserOf (nI i)) &&& 31)))), (6, .int (pX7_greaterOf (nI i))), (5, .int (pX7_lesserOf (nI i))), (0, .ref (A 0)), (1, .int a1), (2, .int a2)]) hx hb dX7_furtherFrom_98 hl (k := 6) rfl (nI_succ i).symm (by decide) rfl (fun ls hl => ?_)
                refine lv_goto (tgt := 5) hx hb dX7_furtherFrom_101 (by decide) ?_
                have e8 : pX7_furtherFrom_L5 u w a1 a2 (i + 1) = (((pX7_furtherFrom_L5 u w a1 a2 i) ||| (0 : Int32)) ||| ((1 : Int32) <<< ((pX7_lesserOf (nI i)) &&& 31))) := by rw [pX7_furtherFrom_L5_s] <;> simp only [if_neg c_4, if_neg c_5, if_neg c_8, if_neg c_9, if_pos c_10]
                exact ih_5 (i + 1) (by omega) ls (by rw [e8]; exact lv_sub hl [4, 5, 6, 1, 0] rfl)
          · refine lv_iconst (v := 1) hx hb dX7_furtherFrom_56 (by decide) ?_
            refine lv_iload hx hb dX7_furtherFrom_57 (lv_at hl 0 rfl) ?_
            refine lv_ishl hx hb dX7_furtherFrom_59 ?_
            refine lv_goto (tgt := 64) hx hb dX7_furtherFrom_60 (by decide) ?_
            refine lv_ior hx hb dX7_furtherFrom_64 ?_
            refine lv_istore_n (lv' := [(3, .int ((pX7_furtherFrom_L5 u w a1 a2 i) ||| ((1 : Int32) <<< ((pX7_greaterOf (nI i)) &&& 31)))), (6, .int (pX7_greaterOf (nI i))), (5, .int (pX7_lesserOf (nI i))), (0, .ref (A 0)), (1, .int a1), (2, .int a2), (4, .int (nI i))]) hx hb dX7_furtherFrom_65 rfl hl (by decide) rfl (fun ls hl => ?_)
            refine lv_iload_n hx hb dX7_furtherFrom_66 rfl (lv_at hl 0 rfl) ?_
            refine lv_iload_n hx hb dX7_furtherFrom_67 rfl (lv_at hl 5 rfl) ?_
            refine lv_iload hx hb dX7_furtherFrom_68 (lv_at hl 1 rfl) ?_
            refine rS (As := [.int a2, .int (pX7_greaterOf (nI i))]) (rest := [.int ((pX7_furtherFrom_L5 u w a1 a2 i) ||| ((1 : Int32) <<< ((pX7_greaterOf (nI i)) &&& 31)))]) hx hb hml hown hts hl.1 (kX7_isIn l D cyC cyI cyO a2 (pX7_greaterOf (nI i))) bS_X7_isIn  wml_RX7_62 ⟨rfl, rfl⟩ ⟨Nat.le_of_ble_eq_true rfl, Nat.le_of_ble_eq_true rfl, Nat.zero_le _, Nat.zero_le _⟩ [] rfl hP hK rfl rfl (Nat.le_of_ble_eq_true rfl) dX7_furtherFrom_70 ?_
            refine lv_if_eq (tgt := 95) hx hb dX7_furtherFrom_73 (by decide) (fun c_11 => ?_) (fun c_11 => ?_)
            · refine lv_iconst (v := 0) hx hb dX7_furtherFrom_95 (by decide) ?_
              refine lv_ior hx hb dX7_furtherFrom_96 ?_
              refine lv_istore_n (lv' := [(3, .int (((pX7_furtherFrom_L5 u w a1 a2 i) ||| ((1 : Int32) <<< ((pX7_greaterOf (nI i)) &&& 31))) ||| (0 : Int32))), (6, .int (pX7_greaterOf (nI i))), (5, .int (pX7_lesserOf (nI i))), (0, .ref (A 0)), (1, .int a1), (2, .int a2), (4, .int (nI i))]) hx hb dX7_furtherFrom_97 rfl hl (by decide) rfl (fun ls hl => ?_)
              refine lv_iinc (v := (nI (i + 1))) (lv' := [(4, .int (nI (i + 1))), (3, .int (((pX7_furtherFrom_L5 u w a1 a2 i) ||| ((1 : Int32) <<< ((pX7_greaterOf (nI i)) &&& 31))) ||| (0 : Int32))), (6, .int (pX7_greaterOf (nI i))), (5, .int (pX7_lesserOf (nI i))), (0, .ref (A 0)), (1, .int a1), (2, .int a2)]) hx hb dX7_furtherFrom_98 hl (k := 6) rfl (nI_succ i).symm (by decide) rfl (fun ls hl => ?_)
              refine lv_goto (tgt := 5) hx hb dX7_furtherFrom_101 (by decide) ?_
              have e8 : pX7_furtherFrom_L5 u w a1 a2 (i + 1) = (((pX7_furtherFrom_L5 u w a1 a2 i) ||| ((1 : Int32) <<< ((pX7_greaterOf (nI i)) &&& 31))) ||| (0 : Int32)) := by rw [pX7_furtherFrom_L5_s] <;> simp only [if_neg c_4, if_neg c_5, if_pos c_8, if_pos c_11]
              exact ih_5 (i + 1) (by omega) ls (by rw [e8]; exact lv_sub hl [4, 5, 6, 1, 0] rfl)
            · refine lv_aload_n hx hb dX7_furtherFrom_76 rfl (lv_at hl 3 rfl) ?_
              refine lv_iload_n hx hb dX7_furtherFrom_77 rfl (lv_at hl 4 rfl) ?_
              refine lv_iload hx hb dX7_furtherFrom_78 (lv_at hl 6 rfl) ?_
              refine lv_iload hx hb dX7_furtherFrom_80 (lv_at hl 1 rfl) ?_
              refine rV (As := [.int a1, .int (nI i), .int (pX7_greaterOf (nI i))]) (rest := [.int ((pX7_furtherFrom_L5 u w a1 a2 i) ||| ((1 : Int32) <<< ((pX7_greaterOf (nI i)) &&& 31)))]) hx hb hml hown hts hl.1 (kX7_reasonToWalk l D cyC cyI cyO A u w a1 (nI i) (pX7_greaterOf (nI i)) ho (vp_in_nI (Nat.lt_of_lt_of_le hlt (by decide)) (by decide))) bV_X7_reasonToWalk  wml_RX7_108 ⟨rfl, rfl⟩ ⟨Nat.le_of_ble_eq_true rfl, Nat.le_of_ble_eq_true rfl, Nat.zero_le _, Nat.zero_le _⟩ [0, 1, 2, 3, 4, 5, 6] rfl hP hK 0 rfl rfl rfl rfl rfl (Nat.le_of_ble_eq_true rfl) dX7_furtherFrom_82 ?_
              refine lv_if_ne (tgt := 95) hx hb dX7_furtherFrom_85 (by decide) (fun c_12 => ?_) (fun c_12 => ?_)
              · refine lv_iconst (v := 0) hx hb dX7_furtherFrom_95 (by decide) ?_
                refine lv_ior hx hb dX7_furtherFrom_96 ?_
                refine lv_istore_n (lv' := [(3, .int (((pX7_furtherFrom_L5 u w a1 a2 i) ||| ((1 : Int32) <<< ((pX7_greaterOf (nI i)) &&& 31))) ||| (0 : Int32))), (6, .int (pX7_greaterOf (nI i))), (5, .int (pX7_lesserOf (nI i))), (0, .ref (A 0)), (1, .int a1), (2, .int a2), (4, .int (nI i))]) hx hb dX7_furtherFrom_97 rfl hl (by decide) rfl (fun ls hl => ?_)
                refine lv_iinc (v := (nI (i + 1))) (lv' := [(4, .int (nI (i + 1))), (3, .int (((pX7_furtherFrom_L5 u w a1 a2 i) ||| ((1 : Int32) <<< ((pX7_greaterOf (nI i)) &&& 31))) ||| (0 : Int32))), (6, .int (pX7_greaterOf (nI i))), (5, .int (pX7_lesserOf (nI i))), (0, .ref (A 0)), (1, .int a1), (2, .int a2)]) hx hb dX7_furtherFrom_98 hl (k := 6) rfl (nI_succ i).symm (by decide) rfl (fun ls hl => ?_)
                refine lv_goto (tgt := 5) hx hb dX7_furtherFrom_101 (by decide) ?_
                have e8 : pX7_furtherFrom_L5 u w a1 a2 (i + 1) = (((pX7_furtherFrom_L5 u w a1 a2 i) ||| ((1 : Int32) <<< ((pX7_greaterOf (nI i)) &&& 31))) ||| (0 : Int32)) := by rw [pX7_furtherFrom_L5_s] <;> simp only [if_neg c_4, if_neg c_5, if_pos c_8, if_neg c_11, if_neg c_12]
                exact ih_5 (i + 1) (by omega) ls (by rw [e8]; exact lv_sub hl [4, 5, 6, 1, 0] rfl)
              · refine lv_iconst (v := 1) hx hb dX7_furtherFrom_88 (by decide) ?_
                refine lv_iload hx hb dX7_furtherFrom_89 (lv_at hl 2 rfl) ?_
                refine lv_ishl hx hb dX7_furtherFrom_91 ?_
                refine lv_goto (tgt := 96) hx hb dX7_furtherFrom_92 (by decide) ?_
                refine lv_ior hx hb dX7_furtherFrom_96 ?_
                refine lv_istore_n (lv' := [(3, .int (((pX7_furtherFrom_L5 u w a1 a2 i) ||| ((1 : Int32) <<< ((pX7_greaterOf (nI i)) &&& 31))) ||| ((1 : Int32) <<< ((pX7_lesserOf (nI i)) &&& 31)))), (6, .int (pX7_greaterOf (nI i))), (5, .int (pX7_lesserOf (nI i))), (0, .ref (A 0)), (1, .int a1), (2, .int a2), (4, .int (nI i))]) hx hb dX7_furtherFrom_97 rfl hl (by decide) rfl (fun ls hl => ?_)
                refine lv_iinc (v := (nI (i + 1))) (lv' := [(4, .int (nI (i + 1))), (3, .int (((pX7_furtherFrom_L5 u w a1 a2 i) ||| ((1 : Int32) <<< ((pX7_greaterOf (nI i)) &&& 31))) ||| ((1 : Int32) <<< ((pX7_lesserOf (nI i)) &&& 31)))), (6, .int (pX7_greaterOf (nI i))), (5, .int (pX7_lesserOf (nI i))), (0, .ref (A 0)), (1, .int a1), (2, .int a2)]) hx hb dX7_furtherFrom_98 hl (k := 6) rfl (nI_succ i).symm (by decide) rfl (fun ls hl => ?_)
                refine lv_goto (tgt := 5) hx hb dX7_furtherFrom_101 (by decide) ?_
                have e8 : pX7_furtherFrom_L5 u w a1 a2 (i + 1) = (((pX7_furtherFrom_L5 u w a1 a2 i) ||| ((1 : Int32) <<< ((pX7_greaterOf (nI i)) &&& 31))) ||| ((1 : Int32) <<< ((pX7_lesserOf (nI i)) &&& 31))) := by rw [pX7_furtherFrom_L5_s] <;> simp only [if_neg c_4, if_neg c_5, if_pos c_8, if_neg c_11, if_pos c_12]
                exact ih_5 (i + 1) (by omega) ls (by rw [e8]; exact lv_sub hl [4, 5, 6, 1, 0] rfl)
  exact key_5 28 0 (Nat.zero_add 28) ls (lv_sub hl [2, 3, 4, 1, 0] rfl)
theorem bV_X7_furtherFrom : BV RX7 yX7_furtherFrom cX7_furtherFrom 7 (some .int) 2 := ⟨wcd_X7_furtherFrom, wim_X7_furtherFrom, wse_X7_furtherFrom, win_RX7, by decide +kernel⟩
def pX7_sumOf_L4 (u : (Nat → Nat → Int32)) (w : (Nat → Int32)) (a1 : Int32) : Nat → Int32 := fo (fun i x_i => (if (pX7_hasLine u w (nI i)) = 0 then (x_i + (0 : Int32)) else (x_i + (pX7_of u w (nI i) a1)))) 0
theorem pX7_sumOf_L4_s (u : (Nat → Nat → Int32)) (w : (Nat → Int32)) (a1 : Int32) (i : Nat) : pX7_sumOf_L4 u w a1 (i + 1) = (if (pX7_hasLine u w (nI i)) = 0 then ((pX7_sumOf_L4 u w a1 i) + (0 : Int32)) else ((pX7_sumOf_L4 u w a1 i) + (pX7_of u w (nI i) a1))) := rfl
theorem pX7_sumOf_L4_0 (u : (Nat → Nat → Int32)) (w : (Nat → Int32)) (a1 : Int32) : pX7_sumOf_L4 u w a1 0 = 0 := rfl
def pX7_sumOf (u : (Nat → Nat → Int32)) (w : (Nat → Int32)) (a1 : Int32) : Int32 := (pX7_sumOf_L4 u w a1 28)
set_option maxHeartbeats 4000000 in
set_option maxRecDepth 100000 in
theorem kX7_sumOf (l : Launch) (D : va_G) (cyC cyI cyO : ClassId) (A : Nat → Nat) (u : (Nat → Nat → Int32)) (w : (Nat → Int32)) (a1 : Int32) (h2 : vp_in a1 4) : RO l yX7_sumOf (Ty yX7_sumOf cX7_sumOf 4 (some .int)) ({ frames := 2, cells := 0, slots := 0, locals := 43 } : Room) D cyC cyI cyO (wM cyI A u w) [.ref (A 0), .int a1] (pX7_sumOf u w a1) := by
  refine Met.ofW (cc := cX7_sumOf) (maxL := 4) (ret := (some .int)) (by decide) rfl ?_
  intro p e s m args below meth cd s₁ B hml hv
  obtain ⟨rfl, hP, hK⟩ := hv
  have hx := B.exec
  have hb := B.bytes
  have hr := B.returns
  have hts : ∀ w ∈ TB, w.before ([.ref (A 0), .int a1] : List Value).toArray s = true := fun w h => atoms_spec (ws := (Ty yX7_sumOf cX7_sumOf 4 (some .int))) B.pre w (List.mem_cons_of_mem _ h)
  have hown : s.vm.findClass RX7 = some m.cls := findClass_of_methodNamed B.named
  have hlocks := B.notSynchronized
  have hl := lv_entry ([.ref (A 0), .int a1]) (n := 4) (Nat.le_of_ble_eq_true rfl)
  rw [lg_entry_eq]
  generalize (lg_sl ([.ref (A 0), .int a1]) ++ List.replicate (4 - (lg_sl ([.ref (A 0), .int a1])).length) Slot.unset).toArray = ls at hl ⊢
  have hl : lv_has ls 4 [(0, .ref (A 0)), (1, .int a1)] := hl
  refine lv_iconst (v := 0) hx hb dX7_sumOf_0 (by decide) ?_
  refine lv_istore_n (lv' := [(2, .int 0), (0, .ref (A 0)), (1, .int a1)]) hx hb dX7_sumOf_1 rfl hl (by decide) rfl (fun ls hl => ?_)
  refine lv_iconst (v := 0) hx hb dX7_sumOf_2 (by decide) ?_
  refine lv_istore_n (lv' := [(3, .int 0), (2, .int 0), (0, .ref (A 0)), (1, .int a1)]) hx hb dX7_sumOf_3 rfl hl (by decide) rfl (fun ls hl => ?_)
  have key_4 : ∀ k i : Nat, i + k = 28 → ∀ (ls : Array Slot), lv_has ls 4 [(0, .ref (A 0)), (1, .int a1), (2, .int (pX7_sumOf_L4 u w a1 i)), (3, .int (nI i))] → W p l e (headSpec (Ty yX7_sumOf cX7_sumOf 4 (some .int)) ({ frames := 2, cells := 0, slots := 0, locals := 43 } : Room)).room s m ([.ref (A 0), .int a1] : List Value).toArray below meth cd s.heap [] 0 0 (MQ below (vp_Si (fun x => x = (pX7_sumOf u w a1))) ([.ref (A 0), .int a1] : List Value).toArray s 0 0 (fun _ => False)) (F0 m 4 ls []) := by
    intro k
    induction k with
    | zero =>
      intro i hi ls hl
      obtain rfl : i = 28 := hi
      obtain ⟨z_1, hz_1⟩ : ∃ q, q = (pX7_sumOf_L4 u w a1 28) := ⟨_, rfl⟩
      rw [← hz_1] at hl
      refine lv_iload_n hx hb dX7_sumOf_4 rfl (lv_at hl 3 rfl) ?_
      refine lv_bipush (v := 28) hx hb dX7_sumOf_5 (by decide) ?_
      refine lv_icmp_ge (tgt := 37) hx hb dX7_sumOf_7 (by decide) (fun c_2 => ?_) (fun c_2 => absurd (le_of (C := 28) (N := 28) (by decide)) c_2)
      refine lv_iload_n hx hb dX7_sumOf_37 rfl (lv_at hl 2 rfl) ?_
      have e9 : z_1 = (pX7_sumOf u w a1) := by simp only [pX7_sumOf, ← hz_1]
      exact W.iret (v := z_1) hx hb hr (fun t ht hW => ⟨_, rfl, e9, ht⟩) (fun _ h => absurd h List.not_mem_nil) dX7_sumOf_38
    | succ k ih_4 =>
      intro i hi ls hl
      have hlt : i < 28 := by omega
      refine lv_iload_n hx hb dX7_sumOf_4 rfl (lv_at hl 3 rfl) ?_
      refine lv_bipush (v := 28) hx hb dX7_sumOf_5 (by decide) ?_
      refine lv_icmp_ge (tgt := 37) hx hb dX7_sumOf_7 (by decide) (fun c_3 => absurd c_3 (nle_of (C := 28) (N := 28) (by decide) hlt (by decide))) (fun c_3 => ?_)
      refine lv_iload_n hx hb dX7_sumOf_10 rfl (lv_at hl 2 rfl) ?_
      refine lv_aload_n hx hb dX7_sumOf_11 rfl (lv_at hl 0 rfl) ?_
      refine lv_iload_n hx hb dX7_sumOf_12 rfl (lv_at hl 3 rfl) ?_
      refine rV (As := [.int (nI i)]) (rest := [.int (pX7_sumOf_L4 u w a1 i)]) hx hb hml hown hts hl.1 (kX7_hasLine l D cyC cyI cyO A u w (nI i) (vp_in_nI (Nat.lt_of_lt_of_le hlt (by decide)) (by decide))) bV_X7_hasLine  wml_RX7_56 ⟨rfl, rfl⟩ ⟨Nat.le_of_ble_eq_true rfl, Nat.le_of_ble_eq_true rfl, Nat.zero_le _, Nat.zero_le _⟩ [0, 1, 2, 3, 4, 5, 6] rfl hP hK 0 rfl rfl rfl rfl rfl (Nat.le_of_ble_eq_true rfl) dX7_sumOf_13 ?_
      refine lv_if_eq (tgt := 28) hx hb dX7_sumOf_16 (by decide) (fun c_4 => ?_) (fun c_4 => ?_)
      · refine lv_iconst (v := 0) hx hb dX7_sumOf_28 (by decide) ?_
        refine lv_iadd hx hb dX7_sumOf_29 ?_
        refine lv_istore_n (lv' := [(2, .int ((pX7_sumOf_L4 u w a1 i) + (0 : Int32))), (0, .ref (A 0)), (1, .int a1), (3, .int (nI i))]) hx hb dX7_sumOf_30 rfl hl (by decide) rfl (fun ls hl => ?_)
        refine lv_iinc (v := (nI (i + 1))) (lv' := [(3, .int (nI (i + 1))), (2, .int ((pX7_sumOf_L4 u w a1 i) + (0 : Int32))), (0, .ref (A 0)), (1, .int a1)]) hx hb dX7_sumOf_31 hl (k := 3) rfl (nI_succ i).symm (by decide) rfl (fun ls hl => ?_)
        refine lv_goto (tgt := 4) hx hb dX7_sumOf_34 (by decide) ?_
        have e8 : pX7_sumOf_L4 u w a1 (i + 1) = ((pX7_sumOf_L4 u w a1 i) + (0 : Int32)) := by rw [pX7_sumOf_L4_s] <;> simp only [if_pos c_4]
        exact ih_4 (i + 1) (by omega) ls (by rw [e8]; exact lv_sub hl [2, 3, 1, 0] rfl)
      · refine lv_aload_n hx hb dX7_sumOf_19 rfl (lv_at hl 0 rfl) ?_
        refine lv_iload_n hx hb dX7_sumOf_20 rfl (lv_at hl 3 rfl) ?_
        refine lv_iload_n hx hb dX7_sumOf_21 rfl (lv_at hl 1 rfl) ?_
        refine rV (As := [.int (nI i), .int a1]) (rest := [.int (pX7_sumOf_L4 u w a1 i)]) hx hb hml hown hts hl.1 (kX7_of l D cyC cyI cyO A u w (nI i) a1 (vp_in_nI (Nat.lt_of_lt_of_le hlt (by decide)) (by decide)) h2) bV_X7_of  wml_RX7_52 ⟨rfl, rfl⟩ ⟨Nat.le_of_ble_eq_true rfl, Nat.le_of_ble_eq_true rfl, Nat.zero_le _, Nat.zero_le _⟩ [0, 1, 2, 3, 4, 5, 6] rfl hP hK 0 rfl rfl rfl rfl rfl (Nat.le_of_ble_eq_true rfl) dX7_sumOf_22 ?_
        refine lv_goto (tgt := 29) hx hb dX7_sumOf_25 (by decide) ?_
        refine lv_iadd hx hb dX7_sumOf_29 ?_
        refine lv_istore_n (lv' := [(2, .int ((pX7_sumOf_L4 u w a1 i) + (pX7_of u w (nI i) a1))), (0, .ref (A 0)), (1, .int a1), (3, .int (nI i))]) hx hb dX7_sumOf_30 rfl hl (by decide) rfl (fun ls hl => ?_)
        refine lv_iinc (v := (nI (i + 1))) (lv' := [(3, .int (nI (i + 1))), (2, .int ((pX7_sumOf_L4 u w a1 i) + (pX7_of u w (nI i) a1))), (0, .ref (A 0)), (1, .int a1)]) hx hb dX7_sumOf_31 hl (k := 3) rfl (nI_succ i).symm (by decide) rfl (fun ls hl => ?_)
        refine lv_goto (tgt := 4) hx hb dX7_sumOf_34 (by decide) ?_
        have e8 : pX7_sumOf_L4 u w a1 (i + 1) = ((pX7_sumOf_L4 u w a1 i) + (pX7_of u w (nI i) a1)) := by rw [pX7_sumOf_L4_s] <;> simp only [if_neg c_4]
        exact ih_4 (i + 1) (by omega) ls (by rw [e8]; exact lv_sub hl [2, 3, 1, 0] rfl)
  exact key_4 28 0 (Nat.zero_add 28) ls (lv_sub hl [2, 3, 1, 0] rfl)
theorem bV_X7_sumOf : BV RX7 yX7_sumOf cX7_sumOf 4 (some .int) 1 := ⟨wcd_X7_sumOf, wim_X7_sumOf, wse_X7_sumOf, win_RX7, by decide +kernel⟩
def pX7_smokedBy_L11 (u : (Nat → Nat → Int32)) (w : (Nat → Int32)) (a1 : Int32) : Nat → Int32 := fo (fun i x_i => (if (pX7_hasLine u w (nI i)) = 0 then (x_i + (0 : Int32)) else (if ((pX7_smokeBy u w a1) &&& (pX7_bothOf u w (nI i))) = 0 then (x_i + (0 : Int32)) else (x_i + (1 : Int32))))) 0
theorem pX7_smokedBy_L11_s (u : (Nat → Nat → Int32)) (w : (Nat → Int32)) (a1 : Int32) (i : Nat) : pX7_smokedBy_L11 u w a1 (i + 1) = (if (pX7_hasLine u w (nI i)) = 0 then ((pX7_smokedBy_L11 u w a1 i) + (0 : Int32)) else (if ((pX7_smokeBy u w a1) &&& (pX7_bothOf u w (nI i))) = 0 then ((pX7_smokedBy_L11 u w a1 i) + (0 : Int32)) else ((pX7_smokedBy_L11 u w a1 i) + (1 : Int32)))) := rfl
theorem pX7_smokedBy_L11_0 (u : (Nat → Nat → Int32)) (w : (Nat → Int32)) (a1 : Int32) : pX7_smokedBy_L11 u w a1 0 = 0 := rfl
def pX7_smokedBy (u : (Nat → Nat → Int32)) (w : (Nat → Int32)) (a1 : Int32) : Int32 := (pX7_smokedBy_L11 u w a1 28)
set_option maxHeartbeats 4000000 in
set_option maxRecDepth 100000 in
theorem kX7_smokedBy (l : Launch) (D : va_G) (cyC cyI cyO : ClassId) (A : Nat → Nat) (u : (Nat → Nat → Int32)) (w : (Nat → Int32)) (a1 : Int32) (hm3 : ((u 0) 2) ≤ 3) : RO l yX7_smokedBy (Ty yX7_smokedBy cX7_smokedBy 5 (some .int)) ({ frames := 3, cells := 0, slots := 0, locals := 71 } : Room) D cyC cyI cyO (wM cyI A u w) [.ref (A 0), .int a1] (pX7_smokedBy u w a1) := by
  refine Met.ofW (cc := cX7_smokedBy) (maxL := 5) (ret := (some .int)) (by decide) rfl ?_
  intro p e s m args below meth cd s₁ B hml hv
  obtain ⟨rfl, hP, hK⟩ := hv
  have hx := B.exec
  have hb := B.bytes
  have hr := B.returns
  have hts : ∀ w ∈ TB, w.before ([.ref (A 0), .int a1] : List Value).toArray s = true := fun w h => atoms_spec (ws := (Ty yX7_smokedBy cX7_smokedBy 5 (some .int))) B.pre w (List.mem_cons_of_mem _ h)
  have hown : s.vm.findClass RX7 = some m.cls := findClass_of_methodNamed B.named
  have hlocks := B.notSynchronized
  have hl := lv_entry ([.ref (A 0), .int a1]) (n := 5) (Nat.le_of_ble_eq_true rfl)
  rw [lg_entry_eq]
  generalize (lg_sl ([.ref (A 0), .int a1]) ++ List.replicate (5 - (lg_sl ([.ref (A 0), .int a1])).length) Slot.unset).toArray = ls at hl ⊢
  have hl : lv_has ls 5 [(0, .ref (A 0)), (1, .int a1)] := hl
  refine lv_aload_n hx hb dX7_smokedBy_0 rfl (lv_at hl 0 rfl) ?_
  refine lv_iload_n hx hb dX7_smokedBy_1 rfl (lv_at hl 1 rfl) ?_
  refine rV (As := [.int a1]) (rest := []) hx hb hml hown hts hl.1 (kX7_smokeBy l D cyC cyI cyO A u w a1 hm3) bV_X7_smokeBy  wml_RX7_69 ⟨rfl, rfl⟩ ⟨Nat.le_of_ble_eq_true rfl, Nat.le_of_ble_eq_true rfl, Nat.zero_le _, Nat.zero_le _⟩ [0, 1, 2, 3, 4, 5, 6] rfl hP hK 0 rfl rfl rfl rfl rfl (Nat.le_of_ble_eq_true rfl) dX7_smokedBy_2 ?_
  refine lv_istore_n (lv' := [(2, .int (pX7_smokeBy u w a1)), (0, .ref (A 0)), (1, .int a1)]) hx hb dX7_smokedBy_5 rfl hl (by decide) rfl (fun ls hl => ?_)
  refine lv_iconst (v := 0) hx hb dX7_smokedBy_6 (by decide) ?_
  refine lv_istore_n (lv' := [(3, .int 0), (2, .int (pX7_smokeBy u w a1)), (0, .ref (A 0)), (1, .int a1)]) hx hb dX7_smokedBy_7 rfl hl (by decide) rfl (fun ls hl => ?_)
  refine lv_iconst (v := 0) hx hb dX7_smokedBy_8 (by decide) ?_
  refine lv_istore (lv' := [(4, .int 0), (3, .int 0), (2, .int (pX7_smokeBy u w a1)), (0, .ref (A 0)), (1, .int a1)]) hx hb dX7_smokedBy_9 hl (by decide) rfl (fun ls hl => ?_)
  have key_11 : ∀ k i : Nat, i + k = 28 → ∀ (ls : Array Slot), lv_has ls 5 [(0, .ref (A 0)), (1, .int a1), (2, .int (pX7_smokeBy u w a1)), (3, .int (pX7_smokedBy_L11 u w a1 i)), (4, .int (nI i))] → W p l e (headSpec (Ty yX7_smokedBy cX7_smokedBy 5 (some .int)) ({ frames := 3, cells := 0, slots := 0, locals := 71 } : Room)).room s m ([.ref (A 0), .int a1] : List Value).toArray below meth cd s.heap [] 0 0 (MQ below (vp_Si (fun x => x = (pX7_smokedBy u w a1))) ([.ref (A 0), .int a1] : List Value).toArray s 0 0 (fun _ => False)) (F0 m 11 ls []) := by
    intro k
    induction k with
    | zero =>
      intro i hi ls hl
      obtain rfl : i = 28 := hi
      obtain ⟨z_1, hz_1⟩ : ∃ q, q = (pX7_smokedBy_L11 u w a1 28) := ⟨_, rfl⟩
      rw [← hz_1] at hl
      refine lv_iload hx hb dX7_smokedBy_11 (lv_at hl 4 rfl) ?_
      refine lv_bipush (v := 28) hx hb dX7_smokedBy_13 (by decide) ?_
      refine lv_icmp_ge (tgt := 52) hx hb dX7_smokedBy_15 (by decide) (fun c_2 => ?_) (fun c_2 => absurd (le_of (C := 28) (N := 28) (by decide)) c_2)
      refine lv_iload_n hx hb dX7_smokedBy_52 rfl (lv_at hl 3 rfl) ?_
      have e9 : z_1 = (pX7_smokedBy u w a1) := by simp only [pX7_smokedBy, ← hz_1]
      exact W.iret (v := z_1) hx hb hr (fun t ht hW => ⟨_, rfl, e9, ht⟩) (fun _ h => absurd h List.not_mem_nil) dX7_smokedBy_53
    | succ k ih_11 =>
      intro i hi ls hl
      have hlt : i < 28 := by omega
      refine lv_iload hx hb dX7_smokedBy_11 (lv_at hl 4 rfl) ?_
      refine lv_bipush (v := 28) hx hb dX7_smokedBy_13 (by decide) ?_
      refine lv_icmp_ge (tgt := 52) hx hb dX7_smokedBy_15 (by decide) (fun c_3 => absurd c_3 (nle_of (C := 28) (N := 28) (by decide) hlt (by decide))) (fun c_3 => ?_)
      refine lv_iload_n hx hb dX7_smokedBy_18 rfl (lv_at hl 3 rfl) ?_
      refine lv_aload_n hx hb dX7_smokedBy_19 rfl (lv_at hl 0 rfl) ?_
      refine lv_iload hx hb dX7_smokedBy_20 (lv_at hl 4 rfl) ?_
      refine rV (As := [.int (nI i)]) (rest := [.int (pX7_smokedBy_L11 u w a1 i)]) hx hb hml hown hts hl.1 (kX7_hasLine l D cyC cyI cyO A u w (nI i) (vp_in_nI (Nat.lt_of_lt_of_le hlt (by decide)) (by decide))) bV_X7_hasLine  wml_RX7_56 ⟨rfl, rfl⟩ ⟨Nat.le_of_ble_eq_true rfl, Nat.le_of_ble_eq_true rfl, Nat.zero_le _, Nat.zero_le _⟩ [0, 1, 2, 3, 4, 5, 6] rfl hP hK 0 rfl rfl rfl rfl rfl (Nat.le_of_ble_eq_true rfl) dX7_smokedBy_22 ?_
      refine lv_if_eq (tgt := 43) hx hb dX7_smokedBy_25 (by decide) (fun c_4 => ?_) (fun c_4 => ?_)
      · refine lv_iconst (v := 0) hx hb dX7_smokedBy_43 (by decide) ?_
        refine lv_iadd hx hb dX7_smokedBy_44 ?_
        refine lv_istore_n (lv' := [(3, .int ((pX7_smokedBy_L11 u w a1 i) + (0 : Int32))), (0, .ref (A 0)), (1, .int a1), (2, .int (pX7_smokeBy u w a1)), (4, .int (nI i))]) hx hb dX7_smokedBy_45 rfl hl (by decide) rfl (fun ls hl => ?_)
        refine lv_iinc (v := (nI (i + 1))) (lv' := [(4, .int (nI (i + 1))), (3, .int ((pX7_smokedBy_L11 u w a1 i) + (0 : Int32))), (0, .ref (A 0)), (1, .int a1), (2, .int (pX7_smokeBy u w a1))]) hx hb dX7_smokedBy_46 hl (k := 4) rfl (nI_succ i).symm (by decide) rfl (fun ls hl => ?_)
        refine lv_goto (tgt := 11) hx hb dX7_smokedBy_49 (by decide) ?_
        have e8 : pX7_smokedBy_L11 u w a1 (i + 1) = ((pX7_smokedBy_L11 u w a1 i) + (0 : Int32)) := by rw [pX7_smokedBy_L11_s] <;> simp only [if_pos c_4]
        exact ih_11 (i + 1) (by omega) ls (by rw [e8]; exact lv_sub hl [2, 3, 4, 1, 0] rfl)
      · refine lv_iload_n hx hb dX7_smokedBy_28 rfl (lv_at hl 2 rfl) ?_
        refine lv_aload_n hx hb dX7_smokedBy_29 rfl (lv_at hl 0 rfl) ?_
        refine lv_iload hx hb dX7_smokedBy_30 (lv_at hl 4 rfl) ?_
        refine rV (As := [.int (nI i)]) (rest := [.int (pX7_smokeBy u w a1), .int (pX7_smokedBy_L11 u w a1 i)]) hx hb hml hown hts hl.1 (kX7_bothOf l D cyC cyI cyO A u w (nI i)) bV_X7_bothOf  wml_RX7_75 ⟨rfl, rfl⟩ ⟨Nat.le_of_ble_eq_true rfl, Nat.le_of_ble_eq_true rfl, Nat.zero_le _, Nat.zero_le _⟩ [0, 1, 2, 3, 4, 5, 6] rfl hP hK 0 rfl rfl rfl rfl rfl (Nat.le_of_ble_eq_true rfl) dX7_smokedBy_32 ?_
        refine lv_iand hx hb dX7_smokedBy_35 ?_
        refine lv_if_eq (tgt := 43) hx hb dX7_smokedBy_36 (by decide) (fun c_5 => ?_) (fun c_5 => ?_)
        · refine lv_iconst (v := 0) hx hb dX7_smokedBy_43 (by decide) ?_
          refine lv_iadd hx hb dX7_smokedBy_44 ?_
          refine lv_istore_n (lv' := [(3, .int ((pX7_smokedBy_L11 u w a1 i) + (0 : Int32))), (0, .ref (A 0)), (1, .int a1), (2, .int (pX7_smokeBy u w a1)), (4, .int (nI i))]) hx hb dX7_smokedBy_45 rfl hl (by decide) rfl (fun ls hl => ?_)
          refine lv_iinc (v := (nI (i + 1))) (lv' := [(4, .int (nI (i + 1))), (3, .int ((pX7_smokedBy_L11 u w a1 i) + (0 : Int32))), (0, .ref (A 0)), (1, .int a1), (2, .int (pX7_smokeBy u w a1))]) hx hb dX7_smokedBy_46 hl (k := 4) rfl (nI_succ i).symm (by decide) rfl (fun ls hl => ?_)
          refine lv_goto (tgt := 11) hx hb dX7_smokedBy_49 (by decide) ?_
          have e8 : pX7_smokedBy_L11 u w a1 (i + 1) = ((pX7_smokedBy_L11 u w a1 i) + (0 : Int32)) := by rw [pX7_smokedBy_L11_s] <;> simp only [if_neg c_4, if_pos c_5]
          exact ih_11 (i + 1) (by omega) ls (by rw [e8]; exact lv_sub hl [2, 3, 4, 1, 0] rfl)
        · refine lv_iconst (v := 1) hx hb dX7_smokedBy_39 (by decide) ?_
          refine lv_goto (tgt := 44) hx hb dX7_smokedBy_40 (by decide) ?_
          refine lv_iadd hx hb dX7_smokedBy_44 ?_
          refine lv_istore_n (lv' := [(3, .int ((pX7_smokedBy_L11 u w a1 i) + (1 : Int32))), (0, .ref (A 0)), (1, .int a1), (2, .int (pX7_smokeBy u w a1)), (4, .int (nI i))]) hx hb dX7_smokedBy_45 rfl hl (by decide) rfl (fun ls hl => ?_)
          refine lv_iinc (v := (nI (i + 1))) (lv' := [(4, .int (nI (i + 1))), (3, .int ((pX7_smokedBy_L11 u w a1 i) + (1 : Int32))), (0, .ref (A 0)), (1, .int a1), (2, .int (pX7_smokeBy u w a1))]) hx hb dX7_smokedBy_46 hl (k := 4) rfl (nI_succ i).symm (by decide) rfl (fun ls hl => ?_)
          refine lv_goto (tgt := 11) hx hb dX7_smokedBy_49 (by decide) ?_
          have e8 : pX7_smokedBy_L11 u w a1 (i + 1) = ((pX7_smokedBy_L11 u w a1 i) + (1 : Int32)) := by rw [pX7_smokedBy_L11_s] <;> simp only [if_neg c_4, if_neg c_5]
          exact ih_11 (i + 1) (by omega) ls (by rw [e8]; exact lv_sub hl [2, 3, 4, 1, 0] rfl)
  exact key_11 28 0 (Nat.zero_add 28) ls (lv_sub hl [3, 4, 2, 1, 0] rfl)
theorem bV_X7_smokedBy : BV RX7 yX7_smokedBy cX7_smokedBy 5 (some .int) 1 := ⟨wcd_X7_smokedBy, wim_X7_smokedBy, wse_X7_smokedBy, win_RX7, by decide +kernel⟩
def pX7_windsOver_L4 (u : (Nat → Nat → Int32)) (w : (Nat → Int32)) (a1 : Int32) : Nat → Int32 := fo (fun i x_i => (if ((pX7_smokeBy u w (nI i)) &&& (pX7_bothOf u w a1)) = 0 then (x_i + (0 : Int32)) else (x_i + (1 : Int32)))) 0
theorem pX7_windsOver_L4_s (u : (Nat → Nat → Int32)) (w : (Nat → Int32)) (a1 : Int32) (i : Nat) : pX7_windsOver_L4 u w a1 (i + 1) = (if ((pX7_smokeBy u w (nI i)) &&& (pX7_bothOf u w a1)) = 0 then ((pX7_windsOver_L4 u w a1 i) + (0 : Int32)) else ((pX7_windsOver_L4 u w a1 i) + (1 : Int32))) := rfl
theorem pX7_windsOver_L4_0 (u : (Nat → Nat → Int32)) (w : (Nat → Int32)) (a1 : Int32) : pX7_windsOver_L4 u w a1 0 = 0 := rfl
def pX7_windsOver (u : (Nat → Nat → Int32)) (w : (Nat → Int32)) (a1 : Int32) : Int32 := (pX7_windsOver_L4 u w a1 4)
set_option maxHeartbeats 4000000 in
set_option maxRecDepth 100000 in
theorem kX7_windsOver (l : Launch) (D : va_G) (cyC cyI cyO : ClassId) (A : Nat → Nat) (u : (Nat → Nat → Int32)) (w : (Nat → Int32)) (a1 : Int32) (hm3 : ((u 0) 2) ≤ 3) : RO l yX7_windsOver (Ty yX7_windsOver cX7_windsOver 4 (some .int)) ({ frames := 3, cells := 0, slots := 0, locals := 71 } : Room) D cyC cyI cyO (wM cyI A u w) [.ref (A 0), .int a1] (pX7_windsOver u w a1) := by
  refine Met.ofW (cc := cX7_windsOver) (maxL := 4) (ret := (some .int)) (by decide) rfl ?_
  intro p e s m args below meth cd s₁ B hml hv
  obtain ⟨rfl, hP, hK⟩ := hv
  have hx := B.exec
  have hb := B.bytes
  have hr := B.returns
  have hts : ∀ w ∈ TB, w.before ([.ref (A 0), .int a1] : List Value).toArray s = true := fun w h => atoms_spec (ws := (Ty yX7_windsOver cX7_windsOver 4 (some .int))) B.pre w (List.mem_cons_of_mem _ h)
  have hown : s.vm.findClass RX7 = some m.cls := findClass_of_methodNamed B.named
  have hlocks := B.notSynchronized
  have hl := lv_entry ([.ref (A 0), .int a1]) (n := 4) (Nat.le_of_ble_eq_true rfl)
  rw [lg_entry_eq]
  generalize (lg_sl ([.ref (A 0), .int a1]) ++ List.replicate (4 - (lg_sl ([.ref (A 0), .int a1])).length) Slot.unset).toArray = ls at hl ⊢
  have hl : lv_has ls 4 [(0, .ref (A 0)), (1, .int a1)] := hl
  refine lv_iconst (v := 0) hx hb dX7_windsOver_0 (by decide) ?_
  refine lv_istore_n (lv' := [(2, .int 0), (0, .ref (A 0)), (1, .int a1)]) hx hb dX7_windsOver_1 rfl hl (by decide) rfl (fun ls hl => ?_)
  refine lv_iconst (v := 0) hx hb dX7_windsOver_2 (by decide) ?_
  refine lv_istore_n (lv' := [(3, .int 0), (2, .int 0), (0, .ref (A 0)), (1, .int a1)]) hx hb dX7_windsOver_3 rfl hl (by decide) rfl (fun ls hl => ?_)
  have key_4 : ∀ k i : Nat, i + k = 4 → ∀ (ls : Array Slot), lv_has ls 4 [(0, .ref (A 0)), (1, .int a1), (2, .int (pX7_windsOver_L4 u w a1 i)), (3, .int (nI i))] → W p l e (headSpec (Ty yX7_windsOver cX7_windsOver 4 (some .int)) ({ frames := 3, cells := 0, slots := 0, locals := 71 } : Room)).room s m ([.ref (A 0), .int a1] : List Value).toArray below meth cd s.heap [] 0 0 (MQ below (vp_Si (fun x => x = (pX7_windsOver u w a1))) ([.ref (A 0), .int a1] : List Value).toArray s 0 0 (fun _ => False)) (F0 m 4 ls []) := by
    intro k
    induction k with
    | zero =>
      intro i hi ls hl
      obtain rfl : i = 4 := hi
      obtain ⟨z_1, hz_1⟩ : ∃ q, q = (pX7_windsOver_L4 u w a1 4) := ⟨_, rfl⟩
      rw [← hz_1] at hl
      refine lv_iload_n hx hb dX7_windsOver_4 rfl (lv_at hl 3 rfl) ?_
      refine lv_iconst (v := 4) hx hb dX7_windsOver_5 (by decide) ?_
      refine lv_icmp_ge (tgt := 37) hx hb dX7_windsOver_6 (by decide) (fun c_2 => ?_) (fun c_2 => absurd (le_of (C := 4) (N := 4) (by decide)) c_2)
      refine lv_iload_n hx hb dX7_windsOver_37 rfl (lv_at hl 2 rfl) ?_
      have e9 : z_1 = (pX7_windsOver u w a1) := by simp only [pX7_windsOver, ← hz_1]
      exact W.iret (v := z_1) hx hb hr (fun t ht hW => ⟨_, rfl, e9, ht⟩) (fun _ h => absurd h List.not_mem_nil) dX7_windsOver_38
    | succ k ih_4 =>
      intro i hi ls hl
      have hlt : i < 4 := by omega
      refine lv_iload_n hx hb dX7_windsOver_4 rfl (lv_at hl 3 rfl) ?_
      refine lv_iconst (v := 4) hx hb dX7_windsOver_5 (by decide) ?_
      refine lv_icmp_ge (tgt := 37) hx hb dX7_windsOver_6 (by decide) (fun c_3 => absurd c_3 (nle_of (C := 4) (N := 4) (by decide) hlt (by decide))) (fun c_3 => ?_)
      refine lv_iload_n hx hb dX7_windsOver_9 rfl (lv_at hl 2 rfl) ?_
      refine lv_aload_n hx hb dX7_windsOver_10 rfl (lv_at hl 0 rfl) ?_
      refine lv_iload_n hx hb dX7_windsOver_11 rfl (lv_at hl 3 rfl) ?_
      refine rV (As := [.int (nI i)]) (rest := [.int (pX7_windsOver_L4 u w a1 i)]) hx hb hml hown hts hl.1 (kX7_smokeBy l D cyC cyI cyO A u w (nI i) hm3) bV_X7_smokeBy  wml_RX7_69 ⟨rfl, rfl⟩ ⟨Nat.le_of_ble_eq_true rfl, Nat.le_of_ble_eq_true rfl, Nat.zero_le _, Nat.zero_le _⟩ [0, 1, 2, 3, 4, 5, 6] rfl hP hK 0 rfl rfl rfl rfl rfl (Nat.le_of_ble_eq_true rfl) dX7_windsOver_12 ?_
      refine lv_aload_n hx hb dX7_windsOver_15 rfl (lv_at hl 0 rfl) ?_
      refine lv_iload_n hx hb dX7_windsOver_16 rfl (lv_at hl 1 rfl) ?_
      refine rV (As := [.int a1]) (rest := [.int (pX7_smokeBy u w (nI i)), .int (pX7_windsOver_L4 u w a1 i)]) hx hb hml hown hts hl.1 (kX7_bothOf l D cyC cyI cyO A u w a1) bV_X7_bothOf  wml_RX7_75 ⟨rfl, rfl⟩ ⟨Nat.le_of_ble_eq_true rfl, Nat.le_of_ble_eq_true rfl, Nat.zero_le _, Nat.zero_le _⟩ [0, 1, 2, 3, 4, 5, 6] rfl hP hK 0 rfl rfl rfl rfl rfl (Nat.le_of_ble_eq_true rfl) dX7_windsOver_17 ?_
      refine lv_iand hx hb dX7_windsOver_20 ?_
      refine lv_if_eq (tgt := 28) hx hb dX7_windsOver_21 (by decide) (fun c_4 => ?_) (fun c_4 => ?_)
      · refine lv_iconst (v := 0) hx hb dX7_windsOver_28 (by decide) ?_
        refine lv_iadd hx hb dX7_windsOver_29 ?_
        refine lv_istore_n (lv' := [(2, .int ((pX7_windsOver_L4 u w a1 i) + (0 : Int32))), (0, .ref (A 0)), (1, .int a1), (3, .int (nI i))]) hx hb dX7_windsOver_30 rfl hl (by decide) rfl (fun ls hl => ?_)
        refine lv_iinc (v := (nI (i + 1))) (lv' := [(3, .int (nI (i + 1))), (2, .int ((pX7_windsOver_L4 u w a1 i) + (0 : Int32))), (0, .ref (A 0)), (1, .int a1)]) hx hb dX7_windsOver_31 hl (k := 3) rfl (nI_succ i).symm (by decide) rfl (fun ls hl => ?_)
        refine lv_goto (tgt := 4) hx hb dX7_windsOver_34 (by decide) ?_
        have e8 : pX7_windsOver_L4 u w a1 (i + 1) = ((pX7_windsOver_L4 u w a1 i) + (0 : Int32)) := by rw [pX7_windsOver_L4_s] <;> simp only [if_pos c_4]
        exact ih_4 (i + 1) (by omega) ls (by rw [e8]; exact lv_sub hl [2, 3, 1, 0] rfl)
      · refine lv_iconst (v := 1) hx hb dX7_windsOver_24 (by decide) ?_
        refine lv_goto (tgt := 29) hx hb dX7_windsOver_25 (by decide) ?_
        refine lv_iadd hx hb dX7_windsOver_29 ?_
        refine lv_istore_n (lv' := [(2, .int ((pX7_windsOver_L4 u w a1 i) + (1 : Int32))), (0, .ref (A 0)), (1, .int a1), (3, .int (nI i))]) hx hb dX7_windsOver_30 rfl hl (by decide) rfl (fun ls hl => ?_)
        refine lv_iinc (v := (nI (i + 1))) (lv' := [(3, .int (nI (i + 1))), (2, .int ((pX7_windsOver_L4 u w a1 i) + (1 : Int32))), (0, .ref (A 0)), (1, .int a1)]) hx hb dX7_windsOver_31 hl (k := 3) rfl (nI_succ i).symm (by decide) rfl (fun ls hl => ?_)
        refine lv_goto (tgt := 4) hx hb dX7_windsOver_34 (by decide) ?_
        have e8 : pX7_windsOver_L4 u w a1 (i + 1) = ((pX7_windsOver_L4 u w a1 i) + (1 : Int32)) := by rw [pX7_windsOver_L4_s] <;> simp only [if_neg c_4]
        exact ih_4 (i + 1) (by omega) ls (by rw [e8]; exact lv_sub hl [2, 3, 1, 0] rfl)
  exact key_4 4 0 (Nat.zero_add 4) ls (lv_sub hl [2, 3, 1, 0] rfl)
theorem bV_X7_windsOver : BV RX7 yX7_windsOver cX7_windsOver 4 (some .int) 1 := ⟨wcd_X7_windsOver, wim_X7_windsOver, wse_X7_windsOver, win_RX7, by decide +kernel⟩
def pX7_bestWind_L4 (u : (Nat → Nat → Int32)) (w : (Nat → Int32)) : Nat → Int32 := fo (fun i x_i => (if (pX7_smokedBy u w x_i) ≤ (pX7_smokedBy u w (nI (i + 1))) then x_i else (nI (i + 1)))) 0
theorem pX7_bestWind_L4_s (u : (Nat → Nat → Int32)) (w : (Nat → Int32)) (i : Nat) : pX7_bestWind_L4 u w (i + 1) = (if (pX7_smokedBy u w (pX7_bestWind_L4 u w i)) ≤ (pX7_smokedBy u w (nI (i + 1))) then (pX7_bestWind_L4 u w i) else (nI (i + 1))) := rfl
theorem pX7_bestWind_L4_0 (u : (Nat → Nat → Int32)) (w : (Nat → Int32)) : pX7_bestWind_L4 u w 0 = 0 := rfl
def pX7_bestWind (u : (Nat → Nat → Int32)) (w : (Nat → Int32)) : Int32 := (pX7_bestWind_L4 u w 3)
set_option maxHeartbeats 4000000 in
set_option maxRecDepth 100000 in
theorem kX7_bestWind (l : Launch) (D : va_G) (cyC cyI cyO : ClassId) (A : Nat → Nat) (u : (Nat → Nat → Int32)) (w : (Nat → Int32)) (hm3 : ((u 0) 2) ≤ 3) : RO l yX7_bestWind (Ty yX7_bestWind cX7_bestWind 3 (some .int)) ({ frames := 4, cells := 0, slots := 0, locals := 95 } : Room) D cyC cyI cyO (wM cyI A u w) [.ref (A 0)] (pX7_bestWind u w) := by
  refine Met.ofW (cc := cX7_bestWind) (maxL := 3) (ret := (some .int)) (by decide) rfl ?_
  intro p e s m args below meth cd s₁ B hml hv
  obtain ⟨rfl, hP, hK⟩ := hv
  have hx := B.exec
  have hb := B.bytes
  have hr := B.returns
  have hts : ∀ w ∈ TB, w.before ([.ref (A 0)] : List Value).toArray s = true := fun w h => atoms_spec (ws := (Ty yX7_bestWind cX7_bestWind 3 (some .int))) B.pre w (List.mem_cons_of_mem _ h)
  have hown : s.vm.findClass RX7 = some m.cls := findClass_of_methodNamed B.named
  have hlocks := B.notSynchronized
  have hl := lv_entry ([.ref (A 0)]) (n := 3) (Nat.le_of_ble_eq_true rfl)
  rw [lg_entry_eq]
  generalize (lg_sl ([.ref (A 0)]) ++ List.replicate (3 - (lg_sl ([.ref (A 0)])).length) Slot.unset).toArray = ls at hl ⊢
  have hl : lv_has ls 3 [(0, .ref (A 0))] := hl
  refine lv_iconst (v := 0) hx hb dX7_bestWind_0 (by decide) ?_
  refine lv_istore_n (lv' := [(1, .int 0), (0, .ref (A 0))]) hx hb dX7_bestWind_1 rfl hl (by decide) rfl (fun ls hl => ?_)
  refine lv_iconst (v := 1) hx hb dX7_bestWind_2 (by decide) ?_
  refine lv_istore_n (lv' := [(2, .int 1), (1, .int 0), (0, .ref (A 0))]) hx hb dX7_bestWind_3 rfl hl (by decide) rfl (fun ls hl => ?_)
  have key_4 : ∀ k i : Nat, i + k = 3 → ∀ (ls : Array Slot), lv_has ls 3 [(0, .ref (A 0)), (1, .int (pX7_bestWind_L4 u w i)), (2, .int (nI (i + 1)))] → W p l e (headSpec (Ty yX7_bestWind cX7_bestWind 3 (some .int)) ({ frames := 4, cells := 0, slots := 0, locals := 95 } : Room)).room s m ([.ref (A 0)] : List Value).toArray below meth cd s.heap [] 0 0 (MQ below (vp_Si (fun x => x = (pX7_bestWind u w))) ([.ref (A 0)] : List Value).toArray s 0 0 (fun _ => False)) (F0 m 4 ls []) := by
    intro k
    induction k with
    | zero =>
      intro i hi ls hl
      obtain rfl : i = 3 := hi
      obtain ⟨z_1, hz_1⟩ : ∃ q, q = (pX7_bestWind_L4 u w 3) := ⟨_, rfl⟩
      rw [← hz_1] at hl
      refine lv_iload_n hx hb dX7_bestWind_4 rfl (lv_at hl 2 rfl) ?_
      refine lv_iconst (v := 4) hx hb dX7_bestWind_5 (by decide) ?_
      refine lv_icmp_ge (tgt := 34) hx hb dX7_bestWind_6 (by decide) (fun c_2 => ?_) (fun c_2 => absurd (le_of (C := 4) (N := 3 + 1) (by decide)) c_2)
      refine lv_iload_n hx hb dX7_bestWind_34 rfl (lv_at hl 1 rfl) ?_
      have e9 : z_1 = (pX7_bestWind u w) := by simp only [pX7_bestWind, ← hz_1]
      exact W.iret (v := z_1) hx hb hr (fun t ht hW => ⟨_, rfl, e9, ht⟩) (fun _ h => absurd h List.not_mem_nil) dX7_bestWind_35
    | succ k ih_4 =>
      intro i hi ls hl
      have hlt : i < 3 := by omega
      refine lv_iload_n hx hb dX7_bestWind_4 rfl (lv_at hl 2 rfl) ?_
      refine lv_iconst (v := 4) hx hb dX7_bestWind_5 (by decide) ?_
      refine lv_icmp_ge (tgt := 34) hx hb dX7_bestWind_6 (by decide) (fun c_3 => absurd c_3 (nle_of (C := 4) (N := 4) (by decide) (by omega) (by decide))) (fun c_3 => ?_)
      refine lv_aload_n hx hb dX7_bestWind_9 rfl (lv_at hl 0 rfl) ?_
      refine lv_iload_n hx hb dX7_bestWind_10 rfl (lv_at hl 2 rfl) ?_
      refine rV (As := [.int (nI (i + 1))]) (rest := []) hx hb hml hown hts hl.1 (kX7_smokedBy l D cyC cyI cyO A u w (nI (i + 1)) hm3) bV_X7_smokedBy  wml_RX7_229 ⟨rfl, rfl⟩ ⟨Nat.le_of_ble_eq_true rfl, Nat.le_of_ble_eq_true rfl, Nat.zero_le _, Nat.zero_le _⟩ [0, 1, 2, 3, 4, 5, 6] rfl hP hK 0 rfl rfl rfl rfl rfl (Nat.le_of_ble_eq_true rfl) dX7_bestWind_11 ?_
      refine lv_aload_n hx hb dX7_bestWind_14 rfl (lv_at hl 0 rfl) ?_
      refine lv_iload_n hx hb dX7_bestWind_15 rfl (lv_at hl 1 rfl) ?_
      refine rV (As := [.int (pX7_bestWind_L4 u w i)]) (rest := [.int (pX7_smokedBy u w (nI (i + 1)))]) hx hb hml hown hts hl.1 (kX7_smokedBy l D cyC cyI cyO A u w (pX7_bestWind_L4 u w i) hm3) bV_X7_smokedBy  wml_RX7_229 ⟨rfl, rfl⟩ ⟨Nat.le_of_ble_eq_true rfl, Nat.le_of_ble_eq_true rfl, Nat.zero_le _, Nat.zero_le _⟩ [0, 1, 2, 3, 4, 5, 6] rfl hP hK 0 rfl rfl rfl rfl rfl (Nat.le_of_ble_eq_true rfl) dX7_bestWind_16 ?_
      refine lv_icmp_ge (tgt := 26) hx hb dX7_bestWind_19 (by decide) (fun c_4 => ?_) (fun c_4 => ?_)
      · refine lv_iload_n hx hb dX7_bestWind_26 rfl (lv_at hl 1 rfl) ?_
        refine lv_istore_n (lv' := [(1, .int (pX7_bestWind_L4 u w i)), (0, .ref (A 0)), (2, .int (nI (i + 1)))]) hx hb dX7_bestWind_27 rfl hl (by decide) rfl (fun ls hl => ?_)
        refine lv_iinc (v := (nI (i + 1 + 1))) (lv' := [(2, .int (nI (i + 1 + 1))), (1, .int (pX7_bestWind_L4 u w i)), (0, .ref (A 0))]) hx hb dX7_bestWind_28 hl (k := 2) rfl (nI_succ (i + 1)).symm (by decide) rfl (fun ls hl => ?_)
        refine lv_goto (tgt := 4) hx hb dX7_bestWind_31 (by decide) ?_
        have e8 : pX7_bestWind_L4 u w (i + 1) = (pX7_bestWind_L4 u w i) := by rw [pX7_bestWind_L4_s] <;> simp only [if_pos c_4]
        exact ih_4 (i + 1) (by omega) ls (by rw [e8]; exact lv_sub hl [2, 1, 0] rfl)
      · refine lv_iload_n hx hb dX7_bestWind_22 rfl (lv_at hl 2 rfl) ?_
        refine lv_goto (tgt := 27) hx hb dX7_bestWind_23 (by decide) ?_
        refine lv_istore_n (lv' := [(1, .int (nI (i + 1))), (0, .ref (A 0)), (2, .int (nI (i + 1)))]) hx hb dX7_bestWind_27 rfl hl (by decide) rfl (fun ls hl => ?_)
        refine lv_iinc (v := (nI (i + 1 + 1))) (lv' := [(2, .int (nI (i + 1 + 1))), (1, .int (nI (i + 1))), (0, .ref (A 0))]) hx hb dX7_bestWind_28 hl (k := 2) rfl (nI_succ (i + 1)).symm (by decide) rfl (fun ls hl => ?_)
        refine lv_goto (tgt := 4) hx hb dX7_bestWind_31 (by decide) ?_
        have e8 : pX7_bestWind_L4 u w (i + 1) = (nI (i + 1)) := by rw [pX7_bestWind_L4_s] <;> simp only [if_neg c_4]
        exact ih_4 (i + 1) (by omega) ls (by rw [e8]; exact lv_sub hl [2, 1, 0] rfl)
  exact key_4 3 0 (Nat.zero_add 3) ls (lv_sub hl [2, 1, 0] rfl)
theorem bV_X7_bestWind : BV RX7 yX7_bestWind cX7_bestWind 3 (some .int) 0 := ⟨wcd_X7_bestWind, wim_X7_bestWind, wse_X7_bestWind, win_RX7, by decide +kernel⟩
