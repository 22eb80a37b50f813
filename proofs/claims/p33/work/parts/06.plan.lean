abbrev wC (cyI : ClassId) (A : Nat → Nat) (u : (Nat → Nat → Int32)) (w : (Nat → Int32)) : va_W := [(A 0, .inr (0, [.ref (A 1), .ref (A 2), .ref (A 3), .ref (A 4), .ref (A 5), .ref (A 6), .ref (A 7), .ref (A 8), .int (w 8), .int (w 9), .int (w 10), .int (w 11), .int (w 12), .int (w 13), .int (w 14), .int (w 15), .int (w 16), .int (w 17), .int (w 18)])), (A 1, .inl (cyI, 28, .inl (u 0))), (A 2, .inl (cyI, 28, .inl (u 1))), (A 3, .inl (cyI, 28, .inl (u 2))), (A 4, .inl (cyI, 28, .inl (u 3))), (A 5, .inl (cyI, 4, .inl (u 4))), (A 6, .inl (cyI, 4, .inl (u 5))), (A 7, .inl (cyI, 4, .inl (u 6))), (A 8, .inl (cyI, 4, .inl (u 7)))]
abbrev wM (cyI : ClassId) (A : Nat → Nat) (u : (Nat → Nat → Int32)) (w : (Nat → Int32)) : va_W := [(A 0, .inr (6, [.ref (A 1), .ref (A 2), .ref (A 3), .int (w 3), .ref (A 4), .int (w 5), .ref (A 5), .int (w 7), .int (w 8), .int (w 9), .int (w 10), .int (w 11), .int (w 12), .int (w 13), .ref (A 6)])), (A 1, .inl (cyI, 142, .inl (u 0))), (A 2, .inl (cyI, 142, .inl (u 1))), (A 3, .inl (cyI, 568, .inl (u 2))), (A 4, .inl (cyI, 142, .inl (u 3))), (A 5, .inl (cyI, 60, .inl (u 4))), (A 6, .inl (cyI, 3, .inl (u 5)))]
abbrev wPd (cyC : ClassId) (A : Nat → Nat) (u : (Nat → Nat → Int32)) (w : (Nat → Int32)) : va_W := [(A 0, .inr (3, [.ref (A 1), .int (w 1)])), (A 1, .inl (cyC, 60, .inl (u 0)))]
abbrev wRd (A : Nat → Nat) (XP : Nat → Nat) (w : (Nat → Int32)) : va_W := [(A 0, .inr (2, [.ref (XP 0), .int (w 1), .int (w 2), .int (w 3), .int (w 4), .int (w 5)]))]
abbrev wWy (cyI : ClassId) (A : Nat → Nat) (u : (Nat → Nat → Int32)) : va_W := [(A 0, .inr (4, [.ref (A 1), .ref (A 2)])), (A 1, .inl (cyI, 16, .inl (u 0))), (A 2, .inl (cyI, 16, .inl (u 1)))]
abbrev wRt (A : Nat → Nat) (XC : Nat → Nat) (XT : Nat → Nat) (XS : Nat → Nat) (XH : Nat → Nat) (XY : Nat → Nat) (XP : Nat → Nat) (XR : Nat → Nat) (w : (Nat → Int32)) : va_W := [(A 0, .inr (5, [.ref (XC 0), .ref (XT 0), .ref (XS 0), .int (w 3), .ref (XH 0), .ref (XY 0), .ref (XP 0), .ref (XR 0), .int (w 8), .int (w 9), .int (w 10), .int (w 11)]))]
abbrev wHi (cyO : ClassId) (A : Nat → Nat) (f : Nat → Option Nat) (w : Nat → Int32) : va_W := [(A 0, .inr (1, [.ref (A 1), .int (w 1)])), (A 1, .inl (cyO, 4, .inr (.inr (.inr (.inr f)))))]
abbrev wQ (cyI : ClassId) (n : Nat) (A : Nat → Nat) (u : (Nat → Nat → Int32)) : va_W := [(A 0, .inl (cyI, n, .inl (u 0)))]
theorem vp_lit {x : Int32} {n : Nat} (h : ¬ (x < 0 ∨ n ≤ x.toNatClampNeg)) : vp_in x n := h
theorem nz {x : Int32} (h : x = 0 ∨ x = 1) : narrow .boolean (.int x) = .int x := by rcases h with rfl | rfl <;> rfl

def pX6_isWithin (a1 : Int32) (a2 : Int32) (a3 : Int32) : Int32 := (if a1 < a2 then 0 else (if a3 < a1 then 0 else 1))
set_option maxHeartbeats 4000000 in
set_option maxRecDepth 100000 in
theorem kX6_isWithin (l : Launch) (D : va_G) (cyC cyI cyO : ClassId) (a1 : Int32) (a2 : Int32) (a3 : Int32) : RO l yX6_isWithin (Ty yX6_isWithin cX6_isWithin 3 (some .boolean)) ({ frames := 0, cells := 0, slots := 0, locals := 0 } : Room) D cyC cyI cyO [] [.int a1, .int a2, .int a3] (pX6_isWithin a1 a2 a3) := by
  refine Met.ofW (cc := cX6_isWithin) (maxL := 3) (ret := (some .boolean)) (by decide) rfl ?_
  intro p e s m args below meth cd s₁ B hml hv
  obtain ⟨rfl, hP, hK⟩ := hv
  have hx := B.exec
  have hb := B.bytes
  have hr := B.returns
  have hts : ∀ w ∈ TB, w.before ([.int a1, .int a2, .int a3] : List Value).toArray s = true := fun w h => atoms_spec (ws := (Ty yX6_isWithin cX6_isWithin 3 (some .boolean))) B.pre w (List.mem_cons_of_mem _ h)
  have hown : s.vm.findClass RX6 = some m.cls := findClass_of_methodNamed B.named
  have hlocks := B.notSynchronized
  have hl := lv_entry ([.int a1, .int a2, .int a3]) (n := 3) (Nat.le_of_ble_eq_true rfl)
  rw [lg_entry_eq]
  generalize (lg_sl ([.int a1, .int a2, .int a3]) ++ List.replicate (3 - (lg_sl ([.int a1, .int a2, .int a3])).length) Slot.unset).toArray = ls at hl ⊢
  have hl : lv_has ls 3 [(0, .int a1), (1, .int a2), (2, .int a3)] := hl
  refine lv_iload_n hx hb dX6_isWithin_0 rfl (lv_at hl 0 rfl) ?_
  refine lv_iload_n hx hb dX6_isWithin_1 rfl (lv_at hl 1 rfl) ?_
  refine lv_icmp_lt (tgt := 14) hx hb dX6_isWithin_2 (by decide) (fun c_1 => ?_) (fun c_1 => ?_)
  · refine lv_iconst (v := 0) hx hb dX6_isWithin_14 (by decide) ?_
    have e9 : 0 = (pX6_isWithin a1 a2 a3) := by simp only [pX6_isWithin, if_pos c_1]
    exact W.zret (ty := .boolean) (v := 0) hx hb hr (by rfl) (fun t ht hW => ⟨_, rfl, e9, ht⟩) (fun _ h => absurd h List.not_mem_nil) dX6_isWithin_15
  · refine lv_iload_n hx hb dX6_isWithin_5 rfl (lv_at hl 0 rfl) ?_
    refine lv_iload_n hx hb dX6_isWithin_6 rfl (lv_at hl 2 rfl) ?_
    refine lv_icmp_gt (tgt := 14) hx hb dX6_isWithin_7 (by decide) (fun c_2 => ?_) (fun c_2 => ?_)
    · refine lv_iconst (v := 0) hx hb dX6_isWithin_14 (by decide) ?_
      have e9 : 0 = (pX6_isWithin a1 a2 a3) := by simp only [pX6_isWithin, if_neg c_1, if_pos c_2]
      exact W.zret (ty := .boolean) (v := 0) hx hb hr (by rfl) (fun t ht hW => ⟨_, rfl, e9, ht⟩) (fun _ h => absurd h List.not_mem_nil) dX6_isWithin_15
    · refine lv_iconst (v := 1) hx hb dX6_isWithin_10 (by decide) ?_
      refine lv_goto (tgt := 15) hx hb dX6_isWithin_11 (by decide) ?_
      have e9 : 1 = (pX6_isWithin a1 a2 a3) := by simp only [pX6_isWithin, if_neg c_1, if_neg c_2]
      exact W.zret (ty := .boolean) (v := 1) hx hb hr (by rfl) (fun t ht hW => ⟨_, rfl, e9, ht⟩) (fun _ h => absurd h List.not_mem_nil) dX6_isWithin_15
theorem z_X6_isWithin (a1 : Int32) (a2 : Int32) (a3 : Int32) : (pX6_isWithin a1 a2 a3) = 0 ∨ (pX6_isWithin a1 a2 a3) = 1 := by
  unfold pX6_isWithin
  (repeat' split) <;> first | with_reducible exact Or.inl rfl | with_reducible exact Or.inr rfl
theorem bS_X6_isWithin : BS yX6_isWithin cX6_isWithin 3 (some .boolean) 3 := ⟨wcd_X6_isWithin, wst_X6_isWithin, win_RX6, by decide +kernel⟩
def pX6_isRoof (a1 : Int32) : Int32 := (pX6_isWithin a1 0 15)
set_option maxHeartbeats 4000000 in
set_option maxRecDepth 100000 in
theorem kX6_isRoof (l : Launch) (D : va_G) (cyC cyI cyO : ClassId) (a1 : Int32) : RO l yX6_isRoof (Ty yX6_isRoof cX6_isRoof 1 (some .boolean)) ({ frames := 1, cells := 0, slots := 0, locals := 22 } : Room) D cyC cyI cyO [] [.int a1] (pX6_isRoof a1) := by
  refine Met.ofW (cc := cX6_isRoof) (maxL := 1) (ret := (some .boolean)) (by decide) rfl ?_
  intro p e s m args below meth cd s₁ B hml hv
  obtain ⟨rfl, hP, hK⟩ := hv
  have hx := B.exec
  have hb := B.bytes
  have hr := B.returns
  have hts : ∀ w ∈ TB, w.before ([.int a1] : List Value).toArray s = true := fun w h => atoms_spec (ws := (Ty yX6_isRoof cX6_isRoof 1 (some .boolean))) B.pre w (List.mem_cons_of_mem _ h)
  have hown : s.vm.findClass RX6 = some m.cls := findClass_of_methodNamed B.named
  have hlocks := B.notSynchronized
  have hl := lv_entry ([.int a1]) (n := 1) (Nat.le_of_ble_eq_true rfl)
  rw [lg_entry_eq]
  generalize (lg_sl ([.int a1]) ++ List.replicate (1 - (lg_sl ([.int a1])).length) Slot.unset).toArray = ls at hl ⊢
  have hl : lv_has ls 1 [(0, .int a1)] := hl
  refine lv_iload_n hx hb dX6_isRoof_0 rfl (lv_at hl 0 rfl) ?_
  refine lv_iconst (v := 0) hx hb dX6_isRoof_1 (by decide) ?_
  refine lv_bipush (v := 15) hx hb dX6_isRoof_2 (by decide) ?_
  refine rS (As := [.int a1, .int 0, .int 15]) (rest := []) hx hb hml hown hts hl.1 (kX6_isWithin l D cyC cyI cyO a1 0 15) bS_X6_isWithin  wml_RX6_58 ⟨rfl, rfl⟩ ⟨Nat.le_of_ble_eq_true rfl, Nat.le_of_ble_eq_true rfl, Nat.zero_le _, Nat.zero_le _⟩ [] rfl hP hK rfl rfl (Nat.le_of_ble_eq_true rfl) dX6_isRoof_4 ?_
  have e9 : (pX6_isWithin a1 0 15) = (pX6_isRoof a1) := rfl
  exact W.zret (ty := .boolean) (v := (pX6_isWithin a1 0 15)) hx hb hr (nz (z_X6_isWithin a1 0 15)) (fun t ht hW => ⟨_, rfl, e9, ht⟩) (fun _ h => absurd h List.not_mem_nil) dX6_isRoof_7
theorem z_X6_isRoof (a1 : Int32) : (pX6_isRoof a1) = 0 ∨ (pX6_isRoof a1) = 1 := by
  unfold pX6_isRoof
  (repeat' split) <;> first | with_reducible exact z_X6_isWithin _ _ _ | with_reducible exact Or.inl rfl | with_reducible exact Or.inr rfl
theorem bS_X6_isRoof : BS yX6_isRoof cX6_isRoof 1 (some .boolean) 1 := ⟨wcd_X6_isRoof, wst_X6_isRoof, win_RX6, by decide +kernel⟩
def pX6_isOwner (a1 : Int32) : Int32 := (pX6_isWithin a1 0 3)
set_option maxHeartbeats 4000000 in
set_option maxRecDepth 100000 in
theorem kX6_isOwner (l : Launch) (D : va_G) (cyC cyI cyO : ClassId) (a1 : Int32) : RO l yX6_isOwner (Ty yX6_isOwner cX6_isOwner 1 (some .boolean)) ({ frames := 1, cells := 0, slots := 0, locals := 22 } : Room) D cyC cyI cyO [] [.int a1] (pX6_isOwner a1) := by
  refine Met.ofW (cc := cX6_isOwner) (maxL := 1) (ret := (some .boolean)) (by decide) rfl ?_
  intro p e s m args below meth cd s₁ B hml hv
  obtain ⟨rfl, hP, hK⟩ := hv
  have hx := B.exec
  have hb := B.bytes
  have hr := B.returns
  have hts : ∀ w ∈ TB, w.before ([.int a1] : List Value).toArray s = true := fun w h => atoms_spec (ws := (Ty yX6_isOwner cX6_isOwner 1 (some .boolean))) B.pre w (List.mem_cons_of_mem _ h)
  have hown : s.vm.findClass RX6 = some m.cls := findClass_of_methodNamed B.named
  have hlocks := B.notSynchronized
  have hl := lv_entry ([.int a1]) (n := 1) (Nat.le_of_ble_eq_true rfl)
  rw [lg_entry_eq]
  generalize (lg_sl ([.int a1]) ++ List.replicate (1 - (lg_sl ([.int a1])).length) Slot.unset).toArray = ls at hl ⊢
  have hl : lv_has ls 1 [(0, .int a1)] := hl
  refine lv_iload_n hx hb dX6_isOwner_0 rfl (lv_at hl 0 rfl) ?_
  refine lv_iconst (v := 0) hx hb dX6_isOwner_1 (by decide) ?_
  refine lv_iconst (v := 3) hx hb dX6_isOwner_2 (by decide) ?_
  refine rS (As := [.int a1, .int 0, .int 3]) (rest := []) hx hb hml hown hts hl.1 (kX6_isWithin l D cyC cyI cyO a1 0 3) bS_X6_isWithin  wml_RX6_58 ⟨rfl, rfl⟩ ⟨Nat.le_of_ble_eq_true rfl, Nat.le_of_ble_eq_true rfl, Nat.zero_le _, Nat.zero_le _⟩ [] rfl hP hK rfl rfl (Nat.le_of_ble_eq_true rfl) dX6_isOwner_3 ?_
  have e9 : (pX6_isWithin a1 0 3) = (pX6_isOwner a1) := rfl
  exact W.zret (ty := .boolean) (v := (pX6_isWithin a1 0 3)) hx hb hr (nz (z_X6_isWithin a1 0 3)) (fun t ht hW => ⟨_, rfl, e9, ht⟩) (fun _ h => absurd h List.not_mem_nil) dX6_isOwner_6
theorem z_X6_isOwner (a1 : Int32) : (pX6_isOwner a1) = 0 ∨ (pX6_isOwner a1) = 1 := by
  unfold pX6_isOwner
  (repeat' split) <;> first | with_reducible exact z_X6_isWithin _ _ _ | with_reducible exact Or.inl rfl | with_reducible exact Or.inr rfl
theorem bS_X6_isOwner : BS yX6_isOwner cX6_isOwner 1 (some .boolean) 1 := ⟨wcd_X6_isOwner, wst_X6_isOwner, win_RX6, by decide +kernel⟩
def pX6_bitOf (a1 : Int32) (a2 : Int32) : Int32 := ((a1 >>> (a2 &&& 31)) &&& (1 : Int32))
set_option maxHeartbeats 4000000 in
set_option maxRecDepth 100000 in
theorem kX6_bitOf (l : Launch) (D : va_G) (cyC cyI cyO : ClassId) (a1 : Int32) (a2 : Int32) : RO l yX6_bitOf (Ty yX6_bitOf cX6_bitOf 2 (some .int)) ({ frames := 0, cells := 0, slots := 0, locals := 0 } : Room) D cyC cyI cyO [] [.int a1, .int a2] (pX6_bitOf a1 a2) := by
  refine Met.ofW (cc := cX6_bitOf) (maxL := 2) (ret := (some .int)) (by decide) rfl ?_
  intro p e s m args below meth cd s₁ B hml hv
  obtain ⟨rfl, hP, hK⟩ := hv
  have hx := B.exec
  have hb := B.bytes
  have hr := B.returns
  have hts : ∀ w ∈ TB, w.before ([.int a1, .int a2] : List Value).toArray s = true := fun w h => atoms_spec (ws := (Ty yX6_bitOf cX6_bitOf 2 (some .int))) B.pre w (List.mem_cons_of_mem _ h)
  have hown : s.vm.findClass RX6 = some m.cls := findClass_of_methodNamed B.named
  have hlocks := B.notSynchronized
  have hl := lv_entry ([.int a1, .int a2]) (n := 2) (Nat.le_of_ble_eq_true rfl)
  rw [lg_entry_eq]
  generalize (lg_sl ([.int a1, .int a2]) ++ List.replicate (2 - (lg_sl ([.int a1, .int a2])).length) Slot.unset).toArray = ls at hl ⊢
  have hl : lv_has ls 2 [(0, .int a1), (1, .int a2)] := hl
  refine lv_iload_n hx hb dX6_bitOf_0 rfl (lv_at hl 0 rfl) ?_
  refine lv_iload_n hx hb dX6_bitOf_1 rfl (lv_at hl 1 rfl) ?_
  refine lv_ishr hx hb dX6_bitOf_2 ?_
  refine lv_iconst (v := 1) hx hb dX6_bitOf_3 (by decide) ?_
  refine lv_iand hx hb dX6_bitOf_4 ?_
  have e9 : ((a1 >>> (a2 &&& 31)) &&& (1 : Int32)) = (pX6_bitOf a1 a2) := rfl
  exact W.iret (v := ((a1 >>> (a2 &&& 31)) &&& (1 : Int32))) hx hb hr (fun t ht hW => ⟨_, rfl, e9, ht⟩) (fun _ h => absurd h List.not_mem_nil) dX6_bitOf_5
theorem bS_X6_bitOf : BS yX6_bitOf cX6_bitOf 2 (some .int) 2 := ⟨wcd_X6_bitOf, wst_X6_bitOf, win_RX6, by decide +kernel⟩
def pX6_isIn (a1 : Int32) (a2 : Int32) : Int32 := (if ((a1 >>> (a2 &&& 31)) &&& (1 : Int32)) = 1 then 1 else 0)
set_option maxHeartbeats 4000000 in
set_option maxRecDepth 100000 in
theorem kX6_isIn (l : Launch) (D : va_G) (cyC cyI cyO : ClassId) (a1 : Int32) (a2 : Int32) : RO l yX6_isIn (Ty yX6_isIn cX6_isIn 2 (some .boolean)) ({ frames := 0, cells := 0, slots := 0, locals := 0 } : Room) D cyC cyI cyO [] [.int a1, .int a2] (pX6_isIn a1 a2) := by
  refine Met.ofW (cc := cX6_isIn) (maxL := 2) (ret := (some .boolean)) (by decide) rfl ?_
  intro p e s m args below meth cd s₁ B hml hv
  obtain ⟨rfl, hP, hK⟩ := hv
  have hx := B.exec
  have hb := B.bytes
  have hr := B.returns
  have hts : ∀ w ∈ TB, w.before ([.int a1, .int a2] : List Value).toArray s = true := fun w h => atoms_spec (ws := (Ty yX6_isIn cX6_isIn 2 (some .boolean))) B.pre w (List.mem_cons_of_mem _ h)
  have hown : s.vm.findClass RX6 = some m.cls := findClass_of_methodNamed B.named
  have hlocks := B.notSynchronized
  have hl := lv_entry ([.int a1, .int a2]) (n := 2) (Nat.le_of_ble_eq_true rfl)
  rw [lg_entry_eq]
  generalize (lg_sl ([.int a1, .int a2]) ++ List.replicate (2 - (lg_sl ([.int a1, .int a2])).length) Slot.unset).toArray = ls at hl ⊢
  have hl : lv_has ls 2 [(0, .int a1), (1, .int a2)] := hl
  refine lv_iload_n hx hb dX6_isIn_0 rfl (lv_at hl 0 rfl) ?_
  refine lv_iload_n hx hb dX6_isIn_1 rfl (lv_at hl 1 rfl) ?_
  refine lv_ishr hx hb dX6_isIn_2 ?_
  refine lv_iconst (v := 1) hx hb dX6_isIn_3 (by decide) ?_
  refine lv_iand hx hb dX6_isIn_4 ?_
  refine lv_iconst (v := 1) hx hb dX6_isIn_5 (by decide) ?_
  refine lv_icmp_ne (tgt := 13) hx hb dX6_isIn_6 (by decide) (fun c_1 => ?_) (fun c_1 => ?_)
  · refine lv_iconst (v := 0) hx hb dX6_isIn_13 (by decide) ?_
    have e9 : 0 = (pX6_isIn a1 a2) := by simp only [pX6_isIn, if_neg c_1]
    exact W.zret (ty := .boolean) (v := 0) hx hb hr (by rfl) (fun t ht hW => ⟨_, rfl, e9, ht⟩) (fun _ h => absurd h List.not_mem_nil) dX6_isIn_14
  · refine lv_iconst (v := 1) hx hb dX6_isIn_9 (by decide) ?_
    refine lv_goto (tgt := 14) hx hb dX6_isIn_10 (by decide) ?_
    have e9 : 1 = (pX6_isIn a1 a2) := by simp only [pX6_isIn, if_pos c_1]
    exact W.zret (ty := .boolean) (v := 1) hx hb hr (by rfl) (fun t ht hW => ⟨_, rfl, e9, ht⟩) (fun _ h => absurd h List.not_mem_nil) dX6_isIn_14
theorem z_X6_isIn (a1 : Int32) (a2 : Int32) : (pX6_isIn a1 a2) = 0 ∨ (pX6_isIn a1 a2) = 1 := by
  unfold pX6_isIn
  (repeat' split) <;> first | with_reducible exact Or.inl rfl | with_reducible exact Or.inr rfl
theorem bS_X6_isIn : BS yX6_isIn cX6_isIn 2 (some .boolean) 2 := ⟨wcd_X6_isIn, wst_X6_isIn, win_RX6, by decide +kernel⟩
def pX6_causeIn (a1 : Int32) : Int32 := (if a1 < 10 then a1 else 0)
set_option maxHeartbeats 4000000 in
set_option maxRecDepth 100000 in
theorem kX6_causeIn (l : Launch) (D : va_G) (cyC cyI cyO : ClassId) (a1 : Int32) : RO l yX6_causeIn (Ty yX6_causeIn cX6_causeIn 1 (some .int)) ({ frames := 0, cells := 0, slots := 0, locals := 0 } : Room) D cyC cyI cyO [] [.int a1] (pX6_causeIn a1) := by
  refine Met.ofW (cc := cX6_causeIn) (maxL := 1) (ret := (some .int)) (by decide) rfl ?_
  intro p e s m args below meth cd s₁ B hml hv
  obtain ⟨rfl, hP, hK⟩ := hv
  have hx := B.exec
  have hb := B.bytes
  have hr := B.returns
  have hts : ∀ w ∈ TB, w.before ([.int a1] : List Value).toArray s = true := fun w h => atoms_spec (ws := (Ty yX6_causeIn cX6_causeIn 1 (some .int))) B.pre w (List.mem_cons_of_mem _ h)
  have hown : s.vm.findClass RX6 = some m.cls := findClass_of_methodNamed B.named
  have hlocks := B.notSynchronized
  have hl := lv_entry ([.int a1]) (n := 1) (Nat.le_of_ble_eq_true rfl)
  rw [lg_entry_eq]
  generalize (lg_sl ([.int a1]) ++ List.replicate (1 - (lg_sl ([.int a1])).length) Slot.unset).toArray = ls at hl ⊢
  have hl : lv_has ls 1 [(0, .int a1)] := hl
  refine lv_iload_n hx hb dX6_causeIn_0 rfl (lv_at hl 0 rfl) ?_
  refine lv_bipush (v := 10) hx hb dX6_causeIn_1 (by decide) ?_
  refine lv_icmp_lt (tgt := 10) hx hb dX6_causeIn_3 (by decide) (fun c_1 => ?_) (fun c_1 => ?_)
  · refine lv_iload_n hx hb dX6_causeIn_10 rfl (lv_at hl 0 rfl) ?_
    have e9 : a1 = (pX6_causeIn a1) := by simp only [pX6_causeIn, if_pos c_1]
    exact W.iret (v := a1) hx hb hr (fun t ht hW => ⟨_, rfl, e9, ht⟩) (fun _ h => absurd h List.not_mem_nil) dX6_causeIn_11
  · refine lv_iconst (v := 0) hx hb dX6_causeIn_6 (by decide) ?_
    refine lv_goto (tgt := 11) hx hb dX6_causeIn_7 (by decide) ?_
    have e9 : 0 = (pX6_causeIn a1) := by simp only [pX6_causeIn, if_neg c_1]
    exact W.iret (v := 0) hx hb hr (fun t ht hW => ⟨_, rfl, e9, ht⟩) (fun _ h => absurd h List.not_mem_nil) dX6_causeIn_11
theorem bS_X6_causeIn : BS yX6_causeIn cX6_causeIn 1 (some .int) 1 := ⟨wcd_X6_causeIn, wst_X6_causeIn, win_RX6, by decide +kernel⟩
def pX4_isGangway (a1 : Int32) : Int32 := (if (pX6_isWithin a1 0 27) = 0 then 0 else (if 16 ≤ a1 then 1 else (if (a1 - a1 / (4 : Int32) * (4 : Int32)) = 3 then 0 else 1)))
set_option maxHeartbeats 4000000 in
set_option maxRecDepth 100000 in
theorem kX4_isGangway (l : Launch) (D : va_G) (cyC cyI cyO : ClassId) (a1 : Int32) : RO l yX4_isGangway (Ty yX4_isGangway cX4_isGangway 1 (some .boolean)) ({ frames := 1, cells := 0, slots := 0, locals := 22 } : Room) D cyC cyI cyO [] [.int a1] (pX4_isGangway a1) := by
  refine Met.ofW (cc := cX4_isGangway) (maxL := 1) (ret := (some .boolean)) (by decide) rfl ?_
  intro p e s m args below meth cd s₁ B hml hv
  obtain ⟨rfl, hP, hK⟩ := hv
  have hx := B.exec
  have hb := B.bytes
  have hr := B.returns
  have hts : ∀ w ∈ TB, w.before ([.int a1] : List Value).toArray s = true := fun w h => atoms_spec (ws := (Ty yX4_isGangway cX4_isGangway 1 (some .boolean))) B.pre w (List.mem_cons_of_mem _ h)
  have hown : s.vm.findClass RX4 = some m.cls := findClass_of_methodNamed B.named
  have hlocks := B.notSynchronized
  have hl := lv_entry ([.int a1]) (n := 1) (Nat.le_of_ble_eq_true rfl)
  rw [lg_entry_eq]
  generalize (lg_sl ([.int a1]) ++ List.replicate (1 - (lg_sl ([.int a1])).length) Slot.unset).toArray = ls at hl ⊢
  have hl : lv_has ls 1 [(0, .int a1)] := hl
  refine lv_iload_n hx hb dX4_isGangway_0 rfl (lv_at hl 0 rfl) ?_
  refine lv_iconst (v := 0) hx hb dX4_isGangway_1 (by decide) ?_
  refine lv_bipush (v := 27) hx hb dX4_isGangway_2 (by decide) ?_
  refine rN (As := [.int a1, .int 0, .int 27]) (rest := []) hx hb hml hown hts hl.1 (kX6_isWithin l D cyC cyI cyO a1 0 27) bS_X6_isWithin  hK.2.2.1 ⟨rfl, rfl⟩ ⟨Nat.le_of_ble_eq_true rfl, Nat.le_of_ble_eq_true rfl, Nat.zero_le _, Nat.zero_le _⟩ [] rfl hP hK rfl rfl (Nat.le_of_ble_eq_true rfl) dX4_isGangway_4 ?_
  refine lv_if_ne (tgt := 12) hx hb dX4_isGangway_7 (by decide) (fun c_1 => ?_) (fun c_1 => ?_)
  · refine lv_iload_n hx hb dX4_isGangway_12 rfl (lv_at hl 0 rfl) ?_
    refine lv_bipush (v := 16) hx hb dX4_isGangway_13 (by decide) ?_
    refine lv_icmp_ge (tgt := 25) hx hb dX4_isGangway_15 (by decide) (fun c_2 => ?_) (fun c_2 => ?_)
    · refine lv_iconst (v := 1) hx hb dX4_isGangway_25 (by decide) ?_
      refine lv_goto (tgt := 30) hx hb dX4_isGangway_26 (by decide) ?_
      have e9 : 1 = (pX4_isGangway a1) := by simp only [pX4_isGangway, if_neg c_1, if_pos c_2]
      exact W.zret (ty := .boolean) (v := 1) hx hb hr (by rfl) (fun t ht hW => ⟨_, rfl, e9, ht⟩) (fun _ h => absurd h List.not_mem_nil) dX4_isGangway_30
    · refine lv_iload_n hx hb dX4_isGangway_18 rfl (lv_at hl 0 rfl) ?_
      refine lv_iconst (v := 4) hx hb dX4_isGangway_19 (by decide) ?_
      refine lv_irem hx hb dX4_isGangway_20 (by decide) ?_
      refine lv_iconst (v := 3) hx hb dX4_isGangway_21 (by decide) ?_
      refine lv_icmp_eq (tgt := 29) hx hb dX4_isGangway_22 (by decide) (fun c_3 => ?_) (fun c_3 => ?_)
      · refine lv_iconst (v := 0) hx hb dX4_isGangway_29 (by decide) ?_
        have e9 : 0 = (pX4_isGangway a1) := by simp only [pX4_isGangway, if_neg c_1, if_neg c_2, if_pos c_3]
        exact W.zret (ty := .boolean) (v := 0) hx hb hr (by rfl) (fun t ht hW => ⟨_, rfl, e9, ht⟩) (fun _ h => absurd h List.not_mem_nil) dX4_isGangway_30
      · refine lv_iconst (v := 1) hx hb dX4_isGangway_25 (by decide) ?_
        refine lv_goto (tgt := 30) hx hb dX4_isGangway_26 (by decide) ?_
        have e9 : 1 = (pX4_isGangway a1) := by simp only [pX4_isGangway, if_neg c_1, if_neg c_2, if_neg c_3]
        exact W.zret (ty := .boolean) (v := 1) hx hb hr (by rfl) (fun t ht hW => ⟨_, rfl, e9, ht⟩) (fun _ h => absurd h List.not_mem_nil) dX4_isGangway_30
  · refine lv_iconst (v := 0) hx hb dX4_isGangway_10 (by decide) ?_
    have e9 : 0 = (pX4_isGangway a1) := by simp only [pX4_isGangway, if_pos c_1]
    exact W.zret (ty := .boolean) (v := 0) hx hb hr (by rfl) (fun t ht hW => ⟨_, rfl, e9, ht⟩) (fun _ h => absurd h List.not_mem_nil) dX4_isGangway_11
theorem z_X4_isGangway (a1 : Int32) : (pX4_isGangway a1) = 0 ∨ (pX4_isGangway a1) = 1 := by
  unfold pX4_isGangway
  (repeat' split) <;> first | with_reducible exact Or.inl rfl | with_reducible exact Or.inr rfl
theorem bS_X4_isGangway : BS yX4_isGangway cX4_isGangway 1 (some .boolean) 1 := ⟨wcd_X4_isGangway, wst_X4_isGangway, win_RX4, by decide +kernel⟩
def pX4_lesserRoof (a1 : Int32) : Int32 := (if 16 ≤ a1 then (a1 - (16 : Int32)) else a1)
set_option maxHeartbeats 4000000 in
set_option maxRecDepth 100000 in
theorem kX4_lesserRoof (l : Launch) (D : va_G) (cyC cyI cyO : ClassId) (a1 : Int32) : RO l yX4_lesserRoof (Ty yX4_lesserRoof cX4_lesserRoof 1 (some .int)) ({ frames := 0, cells := 0, slots := 0, locals := 0 } : Room) D cyC cyI cyO [] [.int a1] (pX4_lesserRoof a1) := by
  refine Met.ofW (cc := cX4_lesserRoof) (maxL := 1) (ret := (some .int)) (by decide) rfl ?_
  intro p e s m args below meth cd s₁ B hml hv
  obtain ⟨rfl, hP, hK⟩ := hv
  have hx := B.exec
  have hb := B.bytes
  have hr := B.returns
  have hts : ∀ w ∈ TB, w.before ([.int a1] : List Value).toArray s = true := fun w h => atoms_spec (ws := (Ty yX4_lesserRoof cX4_lesserRoof 1 (some .int))) B.pre w (List.mem_cons_of_mem _ h)
  have hown : s.vm.findClass RX4 = some m.cls := findClass_of_methodNamed B.named
  have hlocks := B.notSynchronized
  have hl := lv_entry ([.int a1]) (n := 1) (Nat.le_of_ble_eq_true rfl)
  rw [lg_entry_eq]
  generalize (lg_sl ([.int a1]) ++ List.replicate (1 - (lg_sl ([.int a1])).length) Slot.unset).toArray = ls at hl ⊢
  have hl : lv_has ls 1 [(0, .int a1)] := hl
  refine lv_iload_n hx hb dX4_lesserRoof_0 rfl (lv_at hl 0 rfl) ?_
  refine lv_bipush (v := 16) hx hb dX4_lesserRoof_1 (by decide) ?_
  refine lv_icmp_ge (tgt := 10) hx hb dX4_lesserRoof_3 (by decide) (fun c_1 => ?_) (fun c_1 => ?_)
  · refine lv_iload_n hx hb dX4_lesserRoof_10 rfl (lv_at hl 0 rfl) ?_
    refine lv_bipush (v := 16) hx hb dX4_lesserRoof_11 (by decide) ?_
    refine lv_isub hx hb dX4_lesserRoof_13 ?_
    have e9 : (a1 - (16 : Int32)) = (pX4_lesserRoof a1) := by simp only [pX4_lesserRoof, if_pos c_1]
    exact W.iret (v := (a1 - (16 : Int32))) hx hb hr (fun t ht hW => ⟨_, rfl, e9, ht⟩) (fun _ h => absurd h List.not_mem_nil) dX4_lesserRoof_14
  · refine lv_iload_n hx hb dX4_lesserRoof_6 rfl (lv_at hl 0 rfl) ?_
    refine lv_goto (tgt := 14) hx hb dX4_lesserRoof_7 (by decide) ?_
    have e9 : a1 = (pX4_lesserRoof a1) := by simp only [pX4_lesserRoof, if_neg c_1]
    exact W.iret (v := a1) hx hb hr (fun t ht hW => ⟨_, rfl, e9, ht⟩) (fun _ h => absurd h List.not_mem_nil) dX4_lesserRoof_14
theorem bS_X4_lesserRoof : BS yX4_lesserRoof cX4_lesserRoof 1 (some .int) 1 := ⟨wcd_X4_lesserRoof, wst_X4_lesserRoof, win_RX4, by decide +kernel⟩
def pX4_greaterRoof (a1 : Int32) : Int32 := (if 16 ≤ a1 then ((pX4_lesserRoof a1) + (4 : Int32)) else ((pX4_lesserRoof a1) + (1 : Int32)))
set_option maxHeartbeats 4000000 in
set_option maxRecDepth 100000 in
theorem kX4_greaterRoof (l : Launch) (D : va_G) (cyC cyI cyO : ClassId) (a1 : Int32) : RO l yX4_greaterRoof (Ty yX4_greaterRoof cX4_greaterRoof 1 (some .int)) ({ frames := 1, cells := 0, slots := 0, locals := 20 } : Room) D cyC cyI cyO [] [.int a1] (pX4_greaterRoof a1) := by
  refine Met.ofW (cc := cX4_greaterRoof) (maxL := 1) (ret := (some .int)) (by decide) rfl ?_
  intro p e s m args below meth cd s₁ B hml hv
  obtain ⟨rfl, hP, hK⟩ := hv
  have hx := B.exec
  have hb := B.bytes
  have hr := B.returns
  have hts : ∀ w ∈ TB, w.before ([.int a1] : List Value).toArray s = true := fun w h => atoms_spec (ws := (Ty yX4_greaterRoof cX4_greaterRoof 1 (some .int))) B.pre w (List.mem_cons_of_mem _ h)
  have hown : s.vm.findClass RX4 = some m.cls := findClass_of_methodNamed B.named
  have hlocks := B.notSynchronized
  have hl := lv_entry ([.int a1]) (n := 1) (Nat.le_of_ble_eq_true rfl)
  rw [lg_entry_eq]
  generalize (lg_sl ([.int a1]) ++ List.replicate (1 - (lg_sl ([.int a1])).length) Slot.unset).toArray = ls at hl ⊢
  have hl : lv_has ls 1 [(0, .int a1)] := hl
  refine lv_iload_n hx hb dX4_greaterRoof_0 rfl (lv_at hl 0 rfl) ?_
  refine rS (As := [.int a1]) (rest := []) hx hb hml hown hts hl.1 (kX4_lesserRoof l D cyC cyI cyO a1) bS_X4_lesserRoof  wml_RX4_13 ⟨rfl, rfl⟩ ⟨Nat.le_of_ble_eq_true rfl, Nat.le_of_ble_eq_true rfl, Nat.zero_le _, Nat.zero_le _⟩ [] rfl hP hK rfl rfl (Nat.le_of_ble_eq_true rfl) dX4_greaterRoof_1 ?_
  refine lv_iload_n hx hb dX4_greaterRoof_4 rfl (lv_at hl 0 rfl) ?_
  refine lv_bipush (v := 16) hx hb dX4_greaterRoof_5 (by decide) ?_
  refine lv_icmp_ge (tgt := 14) hx hb dX4_greaterRoof_7 (by decide) (fun c_1 => ?_) (fun c_1 => ?_)
  · refine lv_iconst (v := 4) hx hb dX4_greaterRoof_14 (by decide) ?_
    refine lv_iadd hx hb dX4_greaterRoof_15 ?_
    have e9 : ((pX4_lesserRoof a1) + (4 : Int32)) = (pX4_greaterRoof a1) := by simp only [pX4_greaterRoof, if_pos c_1]
    exact W.iret (v := ((pX4_lesserRoof a1) + (4 : Int32))) hx hb hr (fun t ht hW => ⟨_, rfl, e9, ht⟩) (fun _ h => absurd h List.not_mem_nil) dX4_greaterRoof_16
  · refine lv_iconst (v := 1) hx hb dX4_greaterRoof_10 (by decide) ?_
    refine lv_goto (tgt := 15) hx hb dX4_greaterRoof_11 (by decide) ?_
    refine lv_iadd hx hb dX4_greaterRoof_15 ?_
    have e9 : ((pX4_lesserRoof a1) + (1 : Int32)) = (pX4_greaterRoof a1) := by simp only [pX4_greaterRoof, if_neg c_1]
    exact W.iret (v := ((pX4_lesserRoof a1) + (1 : Int32))) hx hb hr (fun t ht hW => ⟨_, rfl, e9, ht⟩) (fun _ h => absurd h List.not_mem_nil) dX4_greaterRoof_16
theorem bS_X4_greaterRoof : BS yX4_greaterRoof cX4_greaterRoof 1 (some .int) 1 := ⟨wcd_X4_greaterRoof, wst_X4_greaterRoof, win_RX4, by decide +kernel⟩
def pX4_roofsOf (a1 : Int32) : Int32 := (((1 : Int32) <<< ((pX4_lesserRoof a1) &&& 31)) ||| ((1 : Int32) <<< ((pX4_greaterRoof a1) &&& 31)))
set_option maxHeartbeats 4000000 in
set_option maxRecDepth 100000 in
theorem kX4_roofsOf (l : Launch) (D : va_G) (cyC cyI cyO : ClassId) (a1 : Int32) : RO l yX4_roofsOf (Ty yX4_roofsOf cX4_roofsOf 1 (some .int)) ({ frames := 2, cells := 0, slots := 0, locals := 40 } : Room) D cyC cyI cyO [] [.int a1] (pX4_roofsOf a1) := by
  refine Met.ofW (cc := cX4_roofsOf) (maxL := 1) (ret := (some .int)) (by decide) rfl ?_
  intro p e s m args below meth cd s₁ B hml hv
  obtain ⟨rfl, hP, hK⟩ := hv
  have hx := B.exec
  have hb := B.bytes
  have hr := B.returns
  have hts : ∀ w ∈ TB, w.before ([.int a1] : List Value).toArray s = true := fun w h => atoms_spec (ws := (Ty yX4_roofsOf cX4_roofsOf 1 (some .int))) B.pre w (List.mem_cons_of_mem _ h)
  have hown : s.vm.findClass RX4 = some m.cls := findClass_of_methodNamed B.named
  have hlocks := B.notSynchronized
  have hl := lv_entry ([.int a1]) (n := 1) (Nat.le_of_ble_eq_true rfl)
  rw [lg_entry_eq]
  generalize (lg_sl ([.int a1]) ++ List.replicate (1 - (lg_sl ([.int a1])).length) Slot.unset).toArray = ls at hl ⊢
  have hl : lv_has ls 1 [(0, .int a1)] := hl
  refine lv_iconst (v := 1) hx hb dX4_roofsOf_0 (by decide) ?_
  refine lv_iload_n hx hb dX4_roofsOf_1 rfl (lv_at hl 0 rfl) ?_
  refine rS (As := [.int a1]) (rest := [.int 1]) hx hb hml hown hts hl.1 (kX4_lesserRoof l D cyC cyI cyO a1) bS_X4_lesserRoof  wml_RX4_13 ⟨rfl, rfl⟩ ⟨Nat.le_of_ble_eq_true rfl, Nat.le_of_ble_eq_true rfl, Nat.zero_le _, Nat.zero_le _⟩ [] rfl hP hK rfl rfl (Nat.le_of_ble_eq_true rfl) dX4_roofsOf_2 ?_
  refine lv_ishl hx hb dX4_roofsOf_5 ?_
  refine lv_iconst (v := 1) hx hb dX4_roofsOf_6 (by decide) ?_
  refine lv_iload_n hx hb dX4_roofsOf_7 rfl (lv_at hl 0 rfl) ?_
  refine rS (As := [.int a1]) (rest := [.int 1, .int ((1 : Int32) <<< ((pX4_lesserRoof a1) &&& 31))]) hx hb hml hown hts hl.1 (kX4_greaterRoof l D cyC cyI cyO a1) bS_X4_greaterRoof  wml_RX4_19 ⟨rfl, rfl⟩ ⟨Nat.le_of_ble_eq_true rfl, Nat.le_of_ble_eq_true rfl, Nat.zero_le _, Nat.zero_le _⟩ [] rfl hP hK rfl rfl (Nat.le_of_ble_eq_true rfl) dX4_roofsOf_8 ?_
  refine lv_ishl hx hb dX4_roofsOf_11 ?_
  refine lv_ior hx hb dX4_roofsOf_12 ?_
  have e9 : (((1 : Int32) <<< ((pX4_lesserRoof a1) &&& 31)) ||| ((1 : Int32) <<< ((pX4_greaterRoof a1) &&& 31))) = (pX4_roofsOf a1) := rfl
  exact W.iret (v := (((1 : Int32) <<< ((pX4_lesserRoof a1) &&& 31)) ||| ((1 : Int32) <<< ((pX4_greaterRoof a1) &&& 31)))) hx hb hr (fun t ht hW => ⟨_, rfl, e9, ht⟩) (fun _ h => absurd h List.not_mem_nil) dX4_roofsOf_13
theorem bS_X4_roofsOf : BS yX4_roofsOf cX4_roofsOf 1 (some .int) 1 := ⟨wcd_X4_roofsOf, wst_X4_roofsOf, win_RX4, by decide +kernel⟩
def pX4_otherRoof (a1 : Int32) (a2 : Int32) : Int32 := (if a2 = (pX4_lesserRoof a1) then (pX4_greaterRoof a1) else (pX4_lesserRoof a1))
set_option maxHeartbeats 4000000 in
set_option maxRecDepth 100000 in
theorem kX4_otherRoof (l : Launch) (D : va_G) (cyC cyI cyO : ClassId) (a1 : Int32) (a2 : Int32) : RO l yX4_otherRoof (Ty yX4_otherRoof cX4_otherRoof 2 (some .int)) ({ frames := 2, cells := 0, slots := 0, locals := 40 } : Room) D cyC cyI cyO [] [.int a1, .int a2] (pX4_otherRoof a1 a2) := by
  refine Met.ofW (cc := cX4_otherRoof) (maxL := 2) (ret := (some .int)) (by decide) rfl ?_
  intro p e s m args below meth cd s₁ B hml hv
  obtain ⟨rfl, hP, hK⟩ := hv
  have hx := B.exec
  have hb := B.bytes
  have hr := B.returns
  have hts : ∀ w ∈ TB, w.before ([.int a1, .int a2] : List Value).toArray s = true := fun w h => atoms_spec (ws := (Ty yX4_otherRoof cX4_otherRoof 2 (some .int))) B.pre w (List.mem_cons_of_mem _ h)
  have hown : s.vm.findClass RX4 = some m.cls := findClass_of_methodNamed B.named
  have hlocks := B.notSynchronized
  have hl := lv_entry ([.int a1, .int a2]) (n := 2) (Nat.le_of_ble_eq_true rfl)
  rw [lg_entry_eq]
  generalize (lg_sl ([.int a1, .int a2]) ++ List.replicate (2 - (lg_sl ([.int a1, .int a2])).length) Slot.unset).toArray = ls at hl ⊢
  have hl : lv_has ls 2 [(0, .int a1), (1, .int a2)] := hl
  refine lv_iload_n hx hb dX4_otherRoof_0 rfl (lv_at hl 1 rfl) ?_
  refine lv_iload_n hx hb dX4_otherRoof_1 rfl (lv_at hl 0 rfl) ?_
  refine rS (As := [.int a1]) (rest := [.int a2]) hx hb hml hown hts hl.1 (kX4_lesserRoof l D cyC cyI cyO a1) bS_X4_lesserRoof  wml_RX4_13 ⟨rfl, rfl⟩ ⟨Nat.le_of_ble_eq_true rfl, Nat.le_of_ble_eq_true rfl, Nat.zero_le _, Nat.zero_le _⟩ [] rfl hP hK rfl rfl (Nat.le_of_ble_eq_true rfl) dX4_otherRoof_2 ?_
  refine lv_icmp_ne (tgt := 15) hx hb dX4_otherRoof_5 (by decide) (fun c_1 => ?_) (fun c_1 => ?_)
  · refine lv_iload_n hx hb dX4_otherRoof_15 rfl (lv_at hl 0 rfl) ?_
    refine rS (As := [.int a1]) (rest := []) hx hb hml hown hts hl.1 (kX4_lesserRoof l D cyC cyI cyO a1) bS_X4_lesserRoof  wml_RX4_13 ⟨rfl, rfl⟩ ⟨Nat.le_of_ble_eq_true rfl, Nat.le_of_ble_eq_true rfl, Nat.zero_le _, Nat.zero_le _⟩ [] rfl hP hK rfl rfl (Nat.le_of_ble_eq_true rfl) dX4_otherRoof_16 ?_
    have e9 : (pX4_lesserRoof a1) = (pX4_otherRoof a1 a2) := by simp only [pX4_otherRoof, if_neg c_1]
    exact W.iret (v := (pX4_lesserRoof a1)) hx hb hr (fun t ht hW => ⟨_, rfl, e9, ht⟩) (fun _ h => absurd h List.not_mem_nil) dX4_otherRoof_19
  · refine lv_iload_n hx hb dX4_otherRoof_8 rfl (lv_at hl 0 rfl) ?_
    refine rS (As := [.int a1]) (rest := []) hx hb hml hown hts hl.1 (kX4_greaterRoof l D cyC cyI cyO a1) bS_X4_greaterRoof  wml_RX4_19 ⟨rfl, rfl⟩ ⟨Nat.le_of_ble_eq_true rfl, Nat.le_of_ble_eq_true rfl, Nat.zero_le _, Nat.zero_le _⟩ [] rfl hP hK rfl rfl (Nat.le_of_ble_eq_true rfl) dX4_otherRoof_9 ?_
    refine lv_goto (tgt := 19) hx hb dX4_otherRoof_12 (by decide) ?_
    have e9 : (pX4_greaterRoof a1) = (pX4_otherRoof a1 a2) := by simp only [pX4_otherRoof, if_pos c_1]
    exact W.iret (v := (pX4_greaterRoof a1)) hx hb hr (fun t ht hW => ⟨_, rfl, e9, ht⟩) (fun _ h => absurd h List.not_mem_nil) dX4_otherRoof_19
theorem bS_X4_otherRoof : BS yX4_otherRoof cX4_otherRoof 2 (some .int) 2 := ⟨wcd_X4_otherRoof, wst_X4_otherRoof, win_RX4, by decide +kernel⟩
def pX4_gangwaysOf_L4 (a1 : Int32) : Nat → Int32 := fo (fun i x_i => (if (pX4_isGangway (nI i)) = 0 then x_i else (if (pX6_isIn (pX4_roofsOf (nI i)) a1) = 0 then x_i else (x_i ||| ((1 : Int32) <<< ((nI i) &&& 31)))))) 0
theorem pX4_gangwaysOf_L4_s (a1 : Int32) (i : Nat) : pX4_gangwaysOf_L4 a1 (i + 1) = (if (pX4_isGangway (nI i)) = 0 then (pX4_gangwaysOf_L4 a1 i) else (if (pX6_isIn (pX4_roofsOf (nI i)) a1) = 0 then (pX4_gangwaysOf_L4 a1 i) else ((pX4_gangwaysOf_L4 a1 i) ||| ((1 : Int32) <<< ((nI i) &&& 31))))) := rfl
theorem pX4_gangwaysOf_L4_0 (a1 : Int32) : pX4_gangwaysOf_L4 a1 0 = 0 := rfl
def pX4_gangwaysOf (a1 : Int32) : Int32 := (pX4_gangwaysOf_L4 a1 28)
set_option maxHeartbeats 4000000 in
set_option maxRecDepth 100000 in
theorem kX4_gangwaysOf (l : Launch) (D : va_G) (cyC cyI cyO : ClassId) (a1 : Int32) : RO l yX4_gangwaysOf (Ty yX4_gangwaysOf cX4_gangwaysOf 3 (some .int)) ({ frames := 3, cells := 0, slots := 0, locals := 60 } : Room) D cyC cyI cyO [] [.int a1] (pX4_gangwaysOf a1) := by
  refine Met.ofW (cc := cX4_gangwaysOf) (maxL := 3) (ret := (some .int)) (by decide) rfl ?_
  intro p e s m args below meth cd s₁ B hml hv
  obtain ⟨rfl, hP, hK⟩ := hv
  have hx := B.exec
  have hb := B.bytes
  have hr := B.returns
  have hts : ∀ w ∈ TB, w.before ([.int a1] : List Value).toArray s = true := fun w h => atoms_spec (ws := (Ty yX4_gangwaysOf cX4_gangwaysOf 3 (some .int))) B.pre w (List.mem_cons_of_mem _ h)
  have hown : s.vm.findClass RX4 = some m.cls := findClass_of_methodNamed B.named
  have hlocks := B.notSynchronized
  have hl := lv_entry ([.int a1]) (n := 3) (Nat.le_of_ble_eq_true rfl)
  rw [lg_entry_eq]
  generalize (lg_sl ([.int a1]) ++ List.replicate (3 - (lg_sl ([.int a1])).length) Slot.unset).toArray = ls at hl ⊢
  have hl : lv_has ls 3 [(0, .int a1)] := hl
  refine lv_iconst (v := 0) hx hb dX4_gangwaysOf_0 (by decide) ?_
  refine lv_istore_n (lv' := [(1, .int 0), (0, .int a1)]) hx hb dX4_gangwaysOf_1 rfl hl (by decide) rfl (fun ls hl => ?_)
  refine lv_iconst (v := 0) hx hb dX4_gangwaysOf_2 (by decide) ?_
  refine lv_istore_n (lv' := [(2, .int 0), (1, .int 0), (0, .int a1)]) hx hb dX4_gangwaysOf_3 rfl hl (by decide) rfl (fun ls hl => ?_)
  have key_4 : ∀ k i : Nat, i + k = 28 → ∀ (ls : Array Slot), lv_has ls 3 [(0, .int a1), (1, .int (pX4_gangwaysOf_L4 a1 i)), (2, .int (nI i))] → W p l e (headSpec (Ty yX4_gangwaysOf cX4_gangwaysOf 3 (some .int)) ({ frames := 3, cells := 0, slots := 0, locals := 60 } : Room)).room s m ([.int a1] : List Value).toArray below meth cd s.heap [] 0 0 (MQ below (vp_Si (fun x => x = (pX4_gangwaysOf a1))) ([.int a1] : List Value).toArray s 0 0 (fun _ => False)) (F0 m 4 ls []) := by
    intro k
    induction k with
    | zero =>
      intro i hi ls hl
      obtain rfl : i = 28 := hi
      obtain ⟨z_1, hz_1⟩ : ∃ q, q = (pX4_gangwaysOf_L4 a1 28) := ⟨_, rfl⟩
      rw [← hz_1] at hl
      refine lv_iload_n hx hb dX4_gangwaysOf_4 rfl (lv_at hl 2 rfl) ?_
      refine lv_bipush (v := 28) hx hb dX4_gangwaysOf_5 (by decide) ?_
      refine lv_icmp_ge (tgt := 40) hx hb dX4_gangwaysOf_7 (by decide) (fun c_2 => ?_) (fun c_2 => absurd (le_of (C := 28) (N := 28) (by decide)) c_2)
      refine lv_iload_n hx hb dX4_gangwaysOf_40 rfl (lv_at hl 1 rfl) ?_
      have e9 : z_1 = (pX4_gangwaysOf a1) := by simp only [pX4_gangwaysOf, ← hz_1]
      exact W.iret (v := z_1) hx hb hr (fun t ht hW => ⟨_, rfl, e9, ht⟩) (fun _ h => absurd h List.not_mem_nil) dX4_gangwaysOf_41
    | succ k ih_4 =>
      intro i hi ls hl
      have hlt : i < 28 := by omega
      refine lv_iload_n hx hb dX4_gangwaysOf_4 rfl (lv_at hl 2 rfl) ?_
      refine lv_bipush (v := 28) hx hb dX4_gangwaysOf_5 (by decide) ?_
      refine lv_icmp_ge (tgt := 40) hx hb dX4_gangwaysOf_7 (by decide) (fun c_3 => absurd c_3 (nle_of (C := 28) (N := 28) (by decide) hlt (by decide))) (fun c_3 => ?_)
      refine lv_iload_n hx hb dX4_gangwaysOf_10 rfl (lv_at hl 2 rfl) ?_
      refine rS (As := [.int (nI i)]) (rest := []) hx hb hml hown hts hl.1 (kX4_isGangway l D cyC cyI cyO (nI i)) bS_X4_isGangway  wml_RX4_22 ⟨rfl, rfl⟩ ⟨Nat.le_of_ble_eq_true rfl, Nat.le_of_ble_eq_true rfl, Nat.zero_le _, Nat.zero_le _⟩ [] rfl hP hK rfl rfl (Nat.le_of_ble_eq_true rfl) dX4_gangwaysOf_11 ?_
      refine lv_if_eq (tgt := 34) hx hb dX4_gangwaysOf_14 (by decide) (fun c_4 => ?_) (fun c_4 => ?_)
      · refine lv_iinc (v := (nI (i + 1))) (lv' := [(2, .int (nI (i + 1))), (0, .int a1), (1, .int (pX4_gangwaysOf_L4 a1 i))]) hx hb dX4_gangwaysOf_34 hl (k := 2) rfl (nI_succ i).symm (by decide) rfl (fun ls hl => ?_)
        refine lv_goto (tgt := 4) hx hb dX4_gangwaysOf_37 (by decide) ?_
        have e8 : pX4_gangwaysOf_L4 a1 (i + 1) = (pX4_gangwaysOf_L4 a1 i) := by rw [pX4_gangwaysOf_L4_s] <;> simp only [if_pos c_4]
        exact ih_4 (i + 1) (by omega) ls (by rw [e8]; exact lv_sub hl [1, 2, 0] rfl)
      · refine lv_iload_n hx hb dX4_gangwaysOf_17 rfl (lv_at hl 2 rfl) ?_
        refine rS (As := [.int (nI i)]) (rest := []) hx hb hml hown hts hl.1 (kX4_roofsOf l D cyC cyI cyO (nI i)) bS_X4_roofsOf  wml_RX4_26 ⟨rfl, rfl⟩ ⟨Nat.le_of_ble_eq_true rfl, Nat.le_of_ble_eq_true rfl, Nat.zero_le _, Nat.zero_le _⟩ [] rfl hP hK rfl rfl (Nat.le_of_ble_eq_true rfl) dX4_gangwaysOf_18 ?_
        refine lv_iload_n hx hb dX4_gangwaysOf_21 rfl (lv_at hl 0 rfl) ?_
        refine rN (As := [.int (pX4_roofsOf (nI i)), .int a1]) (rest := []) hx hb hml hown hts hl.1 (kX6_isIn l D cyC cyI cyO (pX4_roofsOf (nI i)) a1) bS_X6_isIn  hK.2.2.2.1 ⟨rfl, rfl⟩ ⟨Nat.le_of_ble_eq_true rfl, Nat.le_of_ble_eq_true rfl, Nat.zero_le _, Nat.zero_le _⟩ [] rfl hP hK rfl rfl (Nat.le_of_ble_eq_true rfl) dX4_gangwaysOf_22 ?_
        refine lv_if_eq (tgt := 34) hx hb dX4_gangwaysOf_25 (by decide) (fun c_5 => ?_) (fun c_5 => ?_)
        · refine lv_iinc (v := (nI (i + 1))) (lv' := [(2, .int (nI (i + 1))), (0, .int a1), (1, .int (pX4_gangwaysOf_L4 a1 i))]) hx hb dX4_gangwaysOf_34 hl (k := 2) rfl (nI_succ i).symm (by decide) rfl (fun ls hl => ?_)
          refine lv_goto (tgt := 4) hx hb dX4_gangwaysOf_37 (by decide) ?_
          have e8 : pX4_gangwaysOf_L4 a1 (i + 1) = (pX4_gangwaysOf_L4 a1 i) := by rw [pX4_gangwaysOf_L4_s] <;> simp only [if_neg c_4, if_pos c_5]
          exact ih_4 (i + 1) (by omega) ls (by rw [e8]; exact lv_sub hl [1, 2, 0] rfl)
        · refine lv_iload_n hx hb dX4_gangwaysOf_28 rfl (lv_at hl 1 rfl) ?_
          refine lv_iconst (v := 1) hx hb dX4_gangwaysOf_29 (by decide) ?_
          refine lv_iload_n hx hb dX4_gangwaysOf_30 rfl (lv_at hl 2 rfl) ?_
          refine lv_ishl hx hb dX4_gangwaysOf_31 ?_
          refine lv_ior hx hb dX4_gangwaysOf_32 ?_
          refine lv_istore_n (lv' := [(1, .int ((pX4_gangwaysOf_L4 a1 i) ||| ((1 : Int32) <<< ((nI i) &&& 31)))), (0, .int a1), (2, .int (nI i))]) hx hb dX4_gangwaysOf_33 rfl hl (by decide) rfl (fun ls hl => ?_)
          refine lv_iinc (v := (nI (i + 1))) (lv' := [(2, .int (nI (i + 1))), (1, .int ((pX4_gangwaysOf_L4 a1 i) ||| ((1 : Int32) <<< ((nI i) &&& 31)))), (0, .int a1)]) hx hb dX4_gangwaysOf_34 hl (k := 2) rfl (nI_succ i).symm (by decide) rfl (fun ls hl => ?_)
          refine lv_goto (tgt := 4) hx hb dX4_gangwaysOf_37 (by decide) ?_
          have e8 : pX4_gangwaysOf_L4 a1 (i + 1) = ((pX4_gangwaysOf_L4 a1 i) ||| ((1 : Int32) <<< ((nI i) &&& 31))) := by rw [pX4_gangwaysOf_L4_s] <;> simp only [if_neg c_4, if_neg c_5]
          exact ih_4 (i + 1) (by omega) ls (by rw [e8]; exact lv_sub hl [2, 1, 0] rfl)
  exact key_4 28 0 (Nat.zero_add 28) ls (lv_sub hl [2, 1, 0] rfl)
theorem bS_X4_gangwaysOf : BS yX4_gangwaysOf cX4_gangwaysOf 3 (some .int) 1 := ⟨wcd_X4_gangwaysOf, wst_X4_gangwaysOf, win_RX4, by decide +kernel⟩
def pX4_nextRoof (a1 : Int32) (a2 : Int32) : Int32 := (if a2 = 0 then (if 3 ≤ (a1 - a1 / (4 : Int32) * (4 : Int32)) then (-1) else (a1 + (1 : Int32))) else (if a2 = 1 then (if 12 ≤ a1 then (-1) else (a1 + (4 : Int32))) else (if a2 = 2 then (if (a1 - a1 / (4 : Int32) * (4 : Int32)) ≤ 0 then (-1) else (a1 - (1 : Int32))) else (if a1 < 4 then (-1) else (a1 - (4 : Int32))))))
set_option maxHeartbeats 4000000 in
set_option maxRecDepth 100000 in
theorem kX4_nextRoof (l : Launch) (D : va_G) (cyC cyI cyO : ClassId) (a1 : Int32) (a2 : Int32) : RO l yX4_nextRoof (Ty yX4_nextRoof cX4_nextRoof 2 (some .int)) ({ frames := 0, cells := 0, slots := 0, locals := 0 } : Room) D cyC cyI cyO [] [.int a1, .int a2] (pX4_nextRoof a1 a2) := by
  refine Met.ofW (cc := cX4_nextRoof) (maxL := 2) (ret := (some .int)) (by decide) rfl ?_
  intro p e s m args below meth cd s₁ B hml hv
  obtain ⟨rfl, hP, hK⟩ := hv
  have hx := B.exec
  have hb := B.bytes
  have hr := B.returns
  have hts : ∀ w ∈ TB, w.before ([.int a1, .int a2] : List Value).toArray s = true := fun w h => atoms_spec (ws := (Ty yX4_nextRoof cX4_nextRoof 2 (some .int))) B.pre w (List.mem_cons_of_mem _ h)
  have hown : s.vm.findClass RX4 = some m.cls := findClass_of_methodNamed B.named
  have hlocks := B.notSynchronized
  have hl := lv_entry ([.int a1, .int a2]) (n := 2) (Nat.le_of_ble_eq_true rfl)
  rw [lg_entry_eq]
  generalize (lg_sl ([.int a1, .int a2]) ++ List.replicate (2 - (lg_sl ([.int a1, .int a2])).length) Slot.unset).toArray = ls at hl ⊢
  have hl : lv_has ls 2 [(0, .int a1), (1, .int a2)] := hl
  refine lv_iload_n hx hb dX4_nextRoof_0 rfl (lv_at hl 1 rfl) ?_
  by_cases c_1 : a2 = 0
  · refine lv_tableIn (off := 27) (tgt := 28) hx hb dX4_nextRoof_1 (by rw [c_1]; decide) (by rw [c_1]; decide) (by rw [c_1]; rfl) (by decide) ?_
    refine lv_iload_n hx hb dX4_nextRoof_28 rfl (lv_at hl 0 rfl) ?_
    refine lv_iconst (v := 4) hx hb dX4_nextRoof_29 (by decide) ?_
    refine lv_irem hx hb dX4_nextRoof_30 (by decide) ?_
    refine lv_iconst (v := 3) hx hb dX4_nextRoof_31 (by decide) ?_
    refine lv_icmp_ge (tgt := 41) hx hb dX4_nextRoof_32 (by decide) (fun c_4 => ?_) (fun c_4 => ?_)
    · refine lv_iconst (v := (-1)) hx hb dX4_nextRoof_41 (by decide) ?_
      have e9 : (-1) = (pX4_nextRoof a1 a2) := by simp only [pX4_nextRoof, if_pos c_1, if_pos c_4]
      exact W.iret (v := (-1)) hx hb hr (fun t ht hW => ⟨_, rfl, e9, ht⟩) (fun _ h => absurd h List.not_mem_nil) dX4_nextRoof_42
    · refine lv_iload_n hx hb dX4_nextRoof_35 rfl (lv_at hl 0 rfl) ?_
      refine lv_iconst (v := 1) hx hb dX4_nextRoof_36 (by decide) ?_
      refine lv_iadd hx hb dX4_nextRoof_37 ?_
      refine lv_goto (tgt := 42) hx hb dX4_nextRoof_38 (by decide) ?_
      have e9 : (a1 + (1 : Int32)) = (pX4_nextRoof a1 a2) := by simp only [pX4_nextRoof, if_pos c_1, if_neg c_4]
      exact W.iret (v := (a1 + (1 : Int32))) hx hb hr (fun t ht hW => ⟨_, rfl, e9, ht⟩) (fun _ h => absurd h List.not_mem_nil) dX4_nextRoof_42
  · by_cases c_2 : a2 = 1
    · refine lv_tableIn (off := 42) (tgt := 43) hx hb dX4_nextRoof_1 (by rw [c_2]; decide) (by rw [c_2]; decide) (by rw [c_2]; rfl) (by decide) ?_
      refine lv_iload_n hx hb dX4_nextRoof_43 rfl (lv_at hl 0 rfl) ?_
      refine lv_bipush (v := 12) hx hb dX4_nextRoof_44 (by decide) ?_
      refine lv_icmp_ge (tgt := 55) hx hb dX4_nextRoof_46 (by decide) (fun c_5 => ?_) (fun c_5 => ?_)
      · refine lv_iconst (v := (-1)) hx hb dX4_nextRoof_55 (by decide) ?_
        have e9 : (-1) = (pX4_nextRoof a1 a2) := by simp only [pX4_nextRoof, if_neg c_1, if_pos c_2, if_pos c_5]
        exact W.iret (v := (-1)) hx hb hr (fun t ht hW => ⟨_, rfl, e9, ht⟩) (fun _ h => absurd h List.not_mem_nil) dX4_nextRoof_56
      · refine lv_iload_n hx hb dX4_nextRoof_49 rfl (lv_at hl 0 rfl) ?_
        refine lv_iconst (v := 4) hx hb dX4_nextRoof_50 (by decide) ?_
        refine lv_iadd hx hb dX4_nextRoof_51 ?_
        refine lv_goto (tgt := 56) hx hb dX4_nextRoof_52 (by decide) ?_
        have e9 : (a1 + (4 : Int32)) = (pX4_nextRoof a1 a2) := by simp only [pX4_nextRoof, if_neg c_1, if_pos c_2, if_neg c_5]
        exact W.iret (v := (a1 + (4 : Int32))) hx hb hr (fun t ht hW => ⟨_, rfl, e9, ht⟩) (fun _ h => absurd h List.not_mem_nil) dX4_nextRoof_56
    · by_cases c_3 : a2 = 2
      · refine lv_tableIn (off := 56) (tgt := 57) hx hb dX4_nextRoof_1 (by rw [c_3]; decide) (by rw [c_3]; decide) (by rw [c_3]; rfl) (by decide) ?_
        refine lv_iload_n hx hb dX4_nextRoof_57 rfl (lv_at hl 0 rfl) ?_
        refine lv_iconst (v := 4) hx hb dX4_nextRoof_58 (by decide) ?_
        refine lv_irem hx hb dX4_nextRoof_59 (by decide) ?_
        refine lv_if_le (tgt := 69) hx hb dX4_nextRoof_60 (by decide) (fun c_6 => ?_) (fun c_6 => ?_)
        · refine lv_iconst (v := (-1)) hx hb dX4_nextRoof_69 (by decide) ?_
          have e9 : (-1) = (pX4_nextRoof a1 a2) := by simp only [pX4_nextRoof, if_neg c_1, if_neg c_2, if_pos c_3, if_pos c_6]
          exact W.iret (v := (-1)) hx hb hr (fun t ht hW => ⟨_, rfl, e9, ht⟩) (fun _ h => absurd h List.not_mem_nil) dX4_nextRoof_70
        · refine lv_iload_n hx hb dX4_nextRoof_63 rfl (lv_at hl 0 rfl) ?_
          refine lv_iconst (v := 1) hx hb dX4_nextRoof_64 (by decide) ?_
          refine lv_isub hx hb dX4_nextRoof_65 ?_
          refine lv_goto (tgt := 70) hx hb dX4_nextRoof_66 (by decide) ?_
          have e9 : (a1 - (1 : Int32)) = (pX4_nextRoof a1 a2) := by simp only [pX4_nextRoof, if_neg c_1, if_neg c_2, if_pos c_3, if_neg c_6]
          exact W.iret (v := (a1 - (1 : Int32))) hx hb hr (fun t ht hW => ⟨_, rfl, e9, ht⟩) (fun _ h => absurd h List.not_mem_nil) dX4_nextRoof_70
      · have nc_1 : (a2 : Int32).toInt ≠ 0 := fun h => c_1 (Int32.toInt_inj.mp (h.trans (by decide)))
        have nc_2 : (a2 : Int32).toInt ≠ 1 := fun h => c_2 (Int32.toInt_inj.mp (h.trans (by decide)))
        have nc_3 : (a2 : Int32).toInt ≠ 2 := fun h => c_3 (Int32.toInt_inj.mp (h.trans (by decide)))
        refine lv_tableOut (tgt := 71) hx hb dX4_nextRoof_1 (by omega) (by decide) ?_
        refine lv_iload_n hx hb dX4_nextRoof_71 rfl (lv_at hl 0 rfl) ?_
        refine lv_iconst (v := 4) hx hb dX4_nextRoof_72 (by decide) ?_
        refine lv_icmp_lt (tgt := 82) hx hb dX4_nextRoof_73 (by decide) (fun c_7 => ?_) (fun c_7 => ?_)
        · refine lv_iconst (v := (-1)) hx hb dX4_nextRoof_82 (by decide) ?_
          have e9 : (-1) = (pX4_nextRoof a1 a2) := by simp only [pX4_nextRoof, if_neg c_1, if_neg c_2, if_neg c_3, if_pos c_7]
          exact W.iret (v := (-1)) hx hb hr (fun t ht hW => ⟨_, rfl, e9, ht⟩) (fun _ h => absurd h List.not_mem_nil) dX4_nextRoof_83
        · refine lv_iload_n hx hb dX4_nextRoof_76 rfl (lv_at hl 0 rfl) ?_
          refine lv_iconst (v := 4) hx hb dX4_nextRoof_77 (by decide) ?_
          refine lv_isub hx hb dX4_nextRoof_78 ?_
          refine lv_goto (tgt := 83) hx hb dX4_nextRoof_79 (by decide) ?_
          have e9 : (a1 - (4 : Int32)) = (pX4_nextRoof a1 a2) := by simp only [pX4_nextRoof, if_neg c_1, if_neg c_2, if_neg c_3, if_neg c_7]
          exact W.iret (v := (a1 - (4 : Int32))) hx hb hr (fun t ht hW => ⟨_, rfl, e9, ht⟩) (fun _ h => absurd h List.not_mem_nil) dX4_nextRoof_83
theorem bS_X4_nextRoof : BS yX4_nextRoof cX4_nextRoof 2 (some .int) 2 := ⟨wcd_X4_nextRoof, wst_X4_nextRoof, win_RX4, by decide +kernel⟩
def pJ6_bitCount_0f7a4 (a1 : Int32) : Int32 := ((((((((a1 - (((a1).toUInt32 >>> ((1 : Int32).toUInt32 &&& Int32.toUInt32 31)).toInt32 &&& (1431655765 : Int32))) &&& (858993459 : Int32)) + ((((a1 - (((a1).toUInt32 >>> ((1 : Int32).toUInt32 &&& Int32.toUInt32 31)).toInt32 &&& (1431655765 : Int32)))).toUInt32 >>> ((2 : Int32).toUInt32 &&& Int32.toUInt32 31)).toInt32 &&& (858993459 : Int32))) + (((((a1 - (((a1).toUInt32 >>> ((1 : Int32).toUInt32 &&& Int32.toUInt32 31)).toInt32 &&& (1431655765 : Int32))) &&& (858993459 : Int32)) + ((((a1 - (((a1).toUInt32 >>> ((1 : Int32).toUInt32 &&& Int32.toUInt32 31)).toInt32 &&& (1431655765 : Int32)))).toUInt32 >>> ((2 : Int32).toUInt32 &&& Int32.toUInt32 31)).toInt32 &&& (858993459 : Int32)))).toUInt32 >>> ((4 : Int32).toUInt32 &&& Int32.toUInt32 31)).toInt32) &&& (252645135 : Int32)) + (((((((a1 - (((a1).toUInt32 >>> ((1 : Int32).toUInt32 &&& Int32.toUInt32 31)).toInt32 &&& (1431655765 : Int32))) &&& (858993459 : Int32)) + ((((a1 - (((a1).toUInt32 >>> ((1 : Int32).toUInt32 &&& Int32.toUInt32 31)).toInt32 &&& (1431655765 : Int32)))).toUInt32 >>> ((2 : Int32).toUInt32 &&& Int32.toUInt32 31)).toInt32 &&& (858993459 : Int32))) + (((((a1 - (((a1).toUInt32 >>> ((1 : Int32).toUInt32 &&& Int32.toUInt32 31)).toInt32 &&& (1431655765 : Int32))) &&& (858993459 : Int32)) + ((((a1 - (((a1).toUInt32 >>> ((1 : Int32).toUInt32 &&& Int32.toUInt32 31)).toInt32 &&& (1431655765 : Int32)))).toUInt32 >>> ((2 : Int32).toUInt32 &&& Int32.toUInt32 31)).toInt32 &&& (858993459 : Int32)))).toUInt32 >>> ((4 : Int32).toUInt32 &&& Int32.toUInt32 31)).toInt32) &&& (252645135 : Int32))).toUInt32 >>> ((8 : Int32).toUInt32 &&& Int32.toUInt32 31)).toInt32) + ((((((((a1 - (((a1).toUInt32 >>> ((1 : Int32).toUInt32 &&& Int32.toUInt32 31)).toInt32 &&& (1431655765 : Int32))) &&& (858993459 : Int32)) + ((((a1 - (((a1).toUInt32 >>> ((1 : Int32).toUInt32 &&& Int32.toUInt32 31)).toInt32 &&& (1431655765 : Int32)))).toUInt32 >>> ((2 : Int32).toUInt32 &&& Int32.toUInt32 31)).toInt32 &&& (858993459 : Int32))) + (((((a1 - (((a1).toUInt32 >>> ((1 : Int32).toUInt32 &&& Int32.toUInt32 31)).toInt32 &&& (1431655765 : Int32))) &&& (858993459 : Int32)) + ((((a1 - (((a1).toUInt32 >>> ((1 : Int32).toUInt32 &&& Int32.toUInt32 31)).toInt32 &&& (1431655765 : Int32)))).toUInt32 >>> ((2 : Int32).toUInt32 &&& Int32.toUInt32 31)).toInt32 &&& (858993459 : Int32)))).toUInt32 >>> ((4 : Int32).toUInt32 &&& Int32.toUInt32 31)).toInt32) &&& (252645135 : Int32)) + (((((((a1 - (((a1).toUInt32 >>> ((1 : Int32).toUInt32 &&& Int32.toUInt32 31)).toInt32 &&& (1431655765 : Int32))) &&& (858993459 : Int32)) + ((((a1 - (((a1).toUInt32 >>> ((1 : Int32).toUInt32 &&& Int32.toUInt32 31)).toInt32 &&& (1431655765 : Int32)))).toUInt32 >>> ((2 : Int32).toUInt32 &&& Int32.toUInt32 31)).toInt32 &&& (858993459 : Int32))) + (((((a1 - (((a1).toUInt32 >>> ((1 : Int32).toUInt32 &&& Int32.toUInt32 31)).toInt32 &&& (1431655765 : Int32))) &&& (858993459 : Int32)) + ((((a1 - (((a1).toUInt32 >>> ((1 : Int32).toUInt32 &&& Int32.toUInt32 31)).toInt32 &&& (1431655765 : Int32)))).toUInt32 >>> ((2 : Int32).toUInt32 &&& Int32.toUInt32 31)).toInt32 &&& (858993459 : Int32)))).toUInt32 >>> ((4 : Int32).toUInt32 &&& Int32.toUInt32 31)).toInt32) &&& (252645135 : Int32))).toUInt32 >>> ((8 : Int32).toUInt32 &&& Int32.toUInt32 31)).toInt32)).toUInt32 >>> ((16 : Int32).toUInt32 &&& Int32.toUInt32 31)).toInt32) &&& (63 : Int32))
set_option maxHeartbeats 4000000 in
set_option maxRecDepth 100000 in
theorem kJ6_bitCount_0f7a4 (l : Launch) (D : va_G) (cyC cyI cyO : ClassId) (a1 : Int32) : RO l yJ6_bitCount_0f7a4 (Ty yJ6_bitCount_0f7a4 cJ6_bitCount_0f7a4 1 (some .int)) ({ frames := 0, cells := 0, slots := 0, locals := 0 } : Room) D cyC cyI cyO [] [.int a1] (pJ6_bitCount_0f7a4 a1) := by
  refine Met.ofW (cc := cJ6_bitCount_0f7a4) (maxL := 1) (ret := (some .int)) (by decide) rfl ?_
  intro p e s m args below meth cd s₁ B hml hv
  obtain ⟨rfl, hP, hK⟩ := hv
  have hx := B.exec
  have hb := B.bytes
  have hr := B.returns
  have hts : ∀ w ∈ TB, w.before ([.int a1] : List Value).toArray s = true := fun w h => atoms_spec (ws := (Ty yJ6_bitCount_0f7a4 cJ6_bitCount_0f7a4 1 (some .int))) B.pre w (List.mem_cons_of_mem _ h)
  have hown : s.vm.findClass RJ6 = some m.cls := findClass_of_methodNamed B.named
  have hlocks := B.notSynchronized
  have hl := lv_entry ([.int a1]) (n := 1) (Nat.le_of_ble_eq_true rfl)
  rw [lg_entry_eq]
  generalize (lg_sl ([.int a1]) ++ List.replicate (1 - (lg_sl ([.int a1])).length) Slot.unset).toArray = ls at hl ⊢
  have hl : lv_has ls 1 [(0, .int a1)] := hl
  refine lv_iload_n hx hb dJ6_bitCount_0f7a4_0 rfl (lv_at hl 0 rfl) ?_
  refine lv_iload_n hx hb dJ6_bitCount_0f7a4_1 rfl (lv_at hl 0 rfl) ?_
  refine lv_iconst (v := 1) hx hb dJ6_bitCount_0f7a4_2 (by decide) ?_
  refine lv_iushr (v := ((a1).toUInt32 >>> ((1 : Int32).toUInt32 &&& Int32.toUInt32 31)).toInt32) hx hb dJ6_bitCount_0f7a4_3 rfl ?_
  refine lv_ldcw (v := 1431655765) hx hb hown (hts _ wco_RJ6_265) dJ6_bitCount_0f7a4_4 ?_
  refine lv_iand hx hb dJ6_bitCount_0f7a4_7 ?_
  refine lv_isub hx hb dJ6_bitCount_0f7a4_8 ?_
  refine lv_istore_n (lv' := [(0, .int (a1 - (((a1).toUInt32 >>> ((1 : Int32).toUInt32 &&& Int32.toUInt32 31)).toInt32 &&& (1431655765 : Int32))))]) hx hb dJ6_bitCount_0f7a4_9 rfl hl (by decide) rfl (fun ls hl => ?_)
  refine lv_iload_n hx hb dJ6_bitCount_0f7a4_10 rfl (lv_at hl 0 rfl) ?_
  refine lv_ldcw (v := 858993459) hx hb hown (hts _ wco_RJ6_266) dJ6_bitCount_0f7a4_11 ?_
  refine lv_iand hx hb dJ6_bitCount_0f7a4_14 ?_
  refine lv_iload_n hx hb dJ6_bitCount_0f7a4_15 rfl (lv_at hl 0 rfl) ?_
  refine lv_iconst (v := 2) hx hb dJ6_bitCount_0f7a4_16 (by decide) ?_
  refine lv_iushr (v := (((a1 - (((a1).toUInt32 >>> ((1 : Int32).toUInt32 &&& Int32.toUInt32 31)).toInt32 &&& (1431655765 : Int32)))).toUInt32 >>> ((2 : Int32).toUInt32 &&& Int32.toUInt32 31)).toInt32) hx hb dJ6_bitCount_0f7a4_17 rfl ?_
  refine lv_ldcw (v := 858993459) hx hb hown (hts _ wco_RJ6_266) dJ6_bitCount_0f7a4_18 ?_
  refine lv_iand hx hb dJ6_bitCount_0f7a4_21 ?_
  refine lv_iadd hx hb dJ6_bitCount_0f7a4_22 ?_
  refine lv_istore_n (lv' := [(0, .int (((a1 - (((a1).toUInt32 >>> ((1 : Int32).toUInt32 &&& Int32.toUInt32 31)).toInt32 &&& (1431655765 : Int32))) &&& (858993459 : Int32)) + ((((a1 - (((a1).toUInt32 >>> ((1 : Int32).toUInt32 &&& Int32.toUInt32 31)).toInt32 &&& (1431655765 : Int32)))).toUInt32 >>> ((2 : Int32).toUInt32 &&& Int32.toUInt32 31)).toInt32 &&& (858993459 : Int32))))]) hx hb dJ6_bitCount_0f7a4_23 rfl hl (by decide) rfl (fun ls hl => ?_)
  refine lv_iload_n hx hb dJ6_bitCount_0f7a4_24 rfl (lv_at hl 0 rfl) ?_
  refine lv_iload_n hx hb dJ6_bitCount_0f7a4_25 rfl (lv_at hl 0 rfl) ?_
  refine lv_iconst (v := 4) hx hb dJ6_bitCount_0f7a4_26 (by decide) ?_
  refine lv_iushr (v := (((((a1 - (((a1).toUInt32 >>> ((1 : Int32).toUInt32 &&& Int32.toUInt32 31)).toInt32 &&& (1431655765 : Int32))) &&& (858993459 : Int32)) + ((((a1 - (((a1).toUInt32 >>> ((1 : Int32).toUInt32 &&& Int32.toUInt32 31)).toInt32 &&& (1431655765 : Int32)))).toUInt32 >>> ((2 : Int32).toUInt32 &&& Int32.toUInt32 31)).toInt32 &&& (858993459 : Int32)))).toUInt32 >>> ((4 : Int32).toUInt32 &&& Int32.toUInt32 31)).toInt32) hx hb dJ6_bitCount_0f7a4_27 rfl ?_
  refine lv_iadd hx hb dJ6_bitCount_0f7a4_28 ?_
  refine lv_ldcw (v := 252645135) hx hb hown (hts _ wco_RJ6_267) dJ6_bitCount_0f7a4_29 ?_
  refine lv_iand hx hb dJ6_bitCount_0f7a4_32 ?_
  refine lv_istore_n (lv' := [(0, .int (((((a1 - (((a1).toUInt32 >>> ((1 : Int32).toUInt32 &&& Int32.toUInt32 31)).toInt32 &&& (1431655765 : Int32))) &&& (858993459 : Int32)) + ((((a1 - (((a1).toUInt32 >>> ((1 : Int32).toUInt32 &&& Int32.toUInt32 31)).toInt32 &&& (1431655765 : Int32)))).toUInt32 >>> ((2 : Int32).toUInt32 &&& Int32.toUInt32 31)).toInt32 &&& (858993459 : Int32))) + (((((a1 - (((a1).toUInt32 >>> ((1 : Int32).toUInt32 &&& Int32.toUInt32 31)).toInt32 &&& (1431655765 : Int32))) &&& (858993459 : Int32)) + ((((a1 - (((a1).toUInt32 >>> ((1 : Int32).toUInt32 &&& Int32.toUInt32 31)).toInt32 &&& (1431655765 : Int32)))).toUInt32 >>> ((2 : Int32).toUInt32 &&& Int32.toUInt32 31)).toInt32 &&& (858993459 : Int32)))).toUInt32 >>> ((4 : Int32).toUInt32 &&& Int32.toUInt32 31)).toInt32) &&& (252645135 : Int32)))]) hx hb dJ6_bitCount_0f7a4_33 rfl hl (by decide) rfl (fun ls hl => ?_)
  refine lv_iload_n hx hb dJ6_bitCount_0f7a4_34 rfl (lv_at hl 0 rfl) ?_
  refine lv_iload_n hx hb dJ6_bitCount_0f7a4_35 rfl (lv_at hl 0 rfl) ?_
  refine lv_bipush (v := 8) hx hb dJ6_bitCount_0f7a4_36 (by decide) ?_
  refine lv_iushr (v := (((((((a1 - (((a1).toUInt32 >>> ((1 : Int32).toUInt32 &&& Int32.toUInt32 31)).toInt32 &&& (1431655765 : Int32))) &&& (858993459 : Int32)) + ((((a1 - (((a1).toUInt32 >>> ((1 : Int32).toUInt32 &&& Int32.toUInt32 31)).toInt32 &&& (1431655765 : Int32)))).toUInt32 >>> ((2 : Int32).toUInt32 &&& Int32.toUInt32 31)).toInt32 &&& (858993459 : Int32))) + (((((a1 - (((a1).toUInt32 >>> ((1 : Int32).toUInt32 &&& Int32.toUInt32 31)).toInt32 &&& (1431655765 : Int32))) &&& (858993459 : Int32)) + ((((a1 - (((a1).toUInt32 >>> ((1 : Int32).toUInt32 &&& Int32.toUInt32 31)).toInt32 &&& (1431655765 : Int32)))).toUInt32 >>> ((2 : Int32).toUInt32 &&& Int32.toUInt32 31)).toInt32 &&& (858993459 : Int32)))).toUInt32 >>> ((4 : Int32).toUInt32 &&& Int32.toUInt32 31)).toInt32) &&& (252645135 : Int32))).toUInt32 >>> ((8 : Int32).toUInt32 &&& Int32.toUInt32 31)).toInt32) hx hb dJ6_bitCount_0f7a4_38 rfl ?_
  refine lv_iadd hx hb dJ6_bitCount_0f7a4_39 ?_
  refine lv_istore_n (lv' := [(0, .int ((((((a1 - (((a1).toUInt32 >>> ((1 : Int32).toUInt32 &&& Int32.toUInt32 31)).toInt32 &&& (1431655765 : Int32))) &&& (858993459 : Int32)) + ((((a1 - (((a1).toUInt32 >>> ((1 : Int32).toUInt32 &&& Int32.toUInt32 31)).toInt32 &&& (1431655765 : Int32)))).toUInt32 >>> ((2 : Int32).toUInt32 &&& Int32.toUInt32 31)).toInt32 &&& (858993459 : Int32))) + (((((a1 - (((a1).toUInt32 >>> ((1 : Int32).toUInt32 &&& Int32.toUInt32 31)).toInt32 &&& (1431655765 : Int32))) &&& (858993459 : Int32)) + ((((a1 - (((a1).toUInt32 >>> ((1 : Int32).toUInt32 &&& Int32.toUInt32 31)).toInt32 &&& (1431655765 : Int32)))).toUInt32 >>> ((2 : Int32).toUInt32 &&& Int32.toUInt32 31)).toInt32 &&& (858993459 : Int32)))).toUInt32 >>> ((4 : Int32).toUInt32 &&& Int32.toUInt32 31)).toInt32) &&& (252645135 : Int32)) + (((((((a1 - (((a1).toUInt32 >>> ((1 : Int32).toUInt32 &&& Int32.toUInt32 31)).toInt32 &&& (1431655765 : Int32))) &&& (858993459 : Int32)) + ((((a1 - (((a1).toUInt32 >>> ((1 : Int32).toUInt32 &&& Int32.toUInt32 31)).toInt32 &&& (1431655765 : Int32)))).toUInt32 >>> ((2 : Int32).toUInt32 &&& Int32.toUInt32 31)).toInt32 &&& (858993459 : Int32))) + (((((a1 - (((a1).toUInt32 >>> ((1 : Int32).toUInt32 &&& Int32.toUInt32 31)).toInt32 &&& (1431655765 : Int32))) &&& (858993459 : Int32)) + ((((a1 - (((a1).toUInt32 >>> ((1 : Int32).toUInt32 &&& Int32.toUInt32 31)).toInt32 &&& (1431655765 : Int32)))).toUInt32 >>> ((2 : Int32).toUInt32 &&& Int32.toUInt32 31)).toInt32 &&& (858993459 : Int32)))).toUInt32 >>> ((4 : Int32).toUInt32 &&& Int32.toUInt32 31)).toInt32) &&& (252645135 : Int32))).toUInt32 >>> ((8 : Int32).toUInt32 &&& Int32.toUInt32 31)).toInt32))]) hx hb dJ6_bitCount_0f7a4_40 rfl hl (by decide) rfl (fun ls hl => ?_)
  refine lv_iload_n hx hb dJ6_bitCount_0f7a4_41 rfl (lv_at hl 0 rfl) ?_
  refine lv_iload_n hx hb dJ6_bitCount_0f7a4_42 rfl (lv_at hl 0 rfl) ?_
  refine lv_bipush (v := 16) hx hb dJ6_bitCount_0f7a4_43 (by decide) ?_
  refine lv_iushr (v := ((((((((a1 - (((a1).toUInt32 >>> ((1 : Int32).toUInt32 &&& Int32.toUInt32 31)).toInt32 &&& (1431655765 : Int32))) &&& (858993459 : Int32)) + ((((a1 - (((a1).toUInt32 >>> ((1 : Int32).toUInt32 &&& Int32.toUInt32 31)).toInt32 &&& (1431655765 : Int32)))).toUInt32 >>> ((2 : Int32).toUInt32 &&& Int32.toUInt32 31)).toInt32 &&& (858993459 : Int32))) + (((((a1 - (((a1).toUInt32 >>> ((1 : Int32).toUInt32 &&& Int32.toUInt32 31)).toInt32 &&& (1431655765 : Int32))) &&& (858993459 : Int32)) + ((((a1 - (((a1).toUInt32 >>> ((1 : Int32).toUInt32 &&& Int32.toUInt32 31)).toInt32 &&& (1431655765 : Int32)))).toUInt32 >>> ((2 : Int32).toUInt32 &&& Int32.toUInt32 31)).toInt32 &&& (858993459 : Int32)))).toUInt32 >>> ((4 : Int32).toUInt32 &&& Int32.toUInt32 31)).toInt32) &&& (252645135 : Int32)) + (((((((a1 - (((a1).toUInt32 >>> ((1 : Int32).toUInt32 &&& Int32.toUInt32 31)).toInt32 &&& (1431655765 : Int32))) &&& (858993459 : Int32)) + ((((a1 - (((a1).toUInt32 >>> ((1 : Int32).toUInt32 &&& Int32.toUInt32 31)).toInt32 &&& (1431655765 : Int32)))).toUInt32 >>> ((2 : Int32).toUInt32 &&& Int32.toUInt32 31)).toInt32 &&& (858993459 : Int32))) + (((((a1 - (((a1).toUInt32 >>> ((1 : Int32).toUInt32 &&& Int32.toUInt32 31)).toInt32 &&& (1431655765 : Int32))) &&& (858993459 : Int32)) + ((((a1 - (((a1).toUInt32 >>> ((1 : Int32).toUInt32 &&& Int32.toUInt32 31)).toInt32 &&& (1431655765 : Int32)))).toUInt32 >>> ((2 : Int32).toUInt32 &&& Int32.toUInt32 31)).toInt32 &&& (858993459 : Int32)))).toUInt32 >>> ((4 : Int32).toUInt32 &&& Int32.toUInt32 31)).toInt32) &&& (252645135 : Int32))).toUInt32 >>> ((8 : Int32).toUInt32 &&& Int32.toUInt32 31)).toInt32)).toUInt32 >>> ((16 : Int32).toUInt32 &&& Int32.toUInt32 31)).toInt32) hx hb dJ6_bitCount_0f7a4_45 rfl ?_
  refine lv_iadd hx hb dJ6_bitCount_0f7a4_46 ?_
  refine lv_istore_n (lv' := [(0, .int (((((((a1 - (((a1).toUInt32 >>> ((1 : Int32).toUInt32 &&& Int32.toUInt32 31)).toInt32 &&& (1431655765 : Int32))) &&& (858993459 : Int32)) + ((((a1 - (((a1).toUInt32 >>> ((1 : Int32).toUInt32 &&& Int32.toUInt32 31)).toInt32 &&& (1431655765 : Int32)))).toUInt32 >>> ((2 : Int32).toUInt32 &&& Int32.toUInt32 31)).toInt32 &&& (858993459 : Int32))) + (((((a1 - (((a1).toUInt32 >>> ((1 : Int32).toUInt32 &&& Int32.toUInt32 31)).toInt32 &&& (1431655765 : Int32))) &&& (858993459 : Int32)) + ((((a1 - (((a1).toUInt32 >>> ((1 : Int32).toUInt32 &&& Int32.toUInt32 31)).toInt32 &&& (1431655765 : Int32)))).toUInt32 >>> ((2 : Int32).toUInt32 &&& Int32.toUInt32 31)).toInt32 &&& (858993459 : Int32)))).toUInt32 >>> ((4 : Int32).toUInt32 &&& Int32.toUInt32 31)).toInt32) &&& (252645135 : Int32)) + (((((((a1 - (((a1).toUInt32 >>> ((1 : Int32).toUInt32 &&& Int32.toUInt32 31)).toInt32 &&& (1431655765 : Int32))) &&& (858993459 : Int32)) + ((((a1 - (((a1).toUInt32 >>> ((1 : Int32).toUInt32 &&& Int32.toUInt32 31)).toInt32 &&& (1431655765 : Int32)))).toUInt32 >>> ((2 : Int32).toUInt32 &&& Int32.toUInt32 31)).toInt32 &&& (858993459 : Int32))) + (((((a1 - (((a1).toUInt32 >>> ((1 : Int32).toUInt32 &&& Int32.toUInt32 31)).toInt32 &&& (1431655765 : Int32))) &&& (858993459 : Int32)) + ((((a1 - (((a1).toUInt32 >>> ((1 : Int32).toUInt32 &&& Int32.toUInt32 31)).toInt32 &&& (1431655765 : Int32)))).toUInt32 >>> ((2 : Int32).toUInt32 &&& Int32.toUInt32 31)).toInt32 &&& (858993459 : Int32)))).toUInt32 >>> ((4 : Int32).toUInt32 &&& Int32.toUInt32 31)).toInt32) &&& (252645135 : Int32))).toUInt32 >>> ((8 : Int32).toUInt32 &&& Int32.toUInt32 31)).toInt32) + ((((((((a1 - (((a1).toUInt32 >>> ((1 : Int32).toUInt32 &&& Int32.toUInt32 31)).toInt32 &&& (1431655765 : Int32))) &&& (858993459 : Int32)) + ((((a1 - (((a1).toUInt32 >>> ((1 : Int32).toUInt32 &&& Int32.toUInt32 31)).toInt32 &&& (1431655765 : Int32)))).toUInt32 >>> ((2 : Int32).toUInt32 &&& Int32.toUInt32 31)).toInt32 &&& (858993459 : Int32))) + (((((a1 - (((a1).toUInt32 >>> ((1 : Int32).toUInt32 &&& Int32.toUInt32 31)).toInt32 &&& (1431655765 : Int32))) &&& (858993459 : Int32)) + ((((a1 - (((a1).toUInt32 >>> ((1 : Int32).toUInt32 &&& Int32.toUInt32 31)).toInt32 &&& (1431655765 : Int32)))).toUInt32 >>> ((2 : Int32).toUInt32 &&& Int32.toUInt32 31)).toInt32 &&& (858993459 : Int32)))).toUInt32 >>> ((4 : Int32).toUInt32 &&& Int32.toUInt32 31)).toInt32) &&& (252645135 : Int32)) + (((((((a1 - (((a1).toUInt32 >>> ((1 : Int32).toUInt32 &&& Int32.toUInt32 31)).toInt32 &&& (1431655765 : Int32))) &&& (858993459 : Int32)) + ((((a1 - (((a1).toUInt32 >>> ((1 : Int32).toUInt32 &&& Int32.toUInt32 31)).toInt32 &&& (1431655765 : Int32)))).toUInt32 >>> ((2 : Int32).toUInt32 &&& Int32.toUInt32 31)).toInt32 &&& (858993459 : Int32))) + (((((a1 - (((a1).toUInt32 >>> ((1 : Int32).toUInt32 &&& Int32.toUInt32 31)).toInt32 &&& (1431655765 : Int32))) &&& (858993459 : Int32)) + ((((a1 - (((a1).toUInt32 >>> ((1 : Int32).toUInt32 &&& Int32.toUInt32 31)).toInt32 &&& (1431655765 : Int32)))).toUInt32 >>> ((2 : Int32).toUInt32 &&& Int32.toUInt32 31)).toInt32 &&& (858993459 : Int32)))).toUInt32 >>> ((4 : Int32).toUInt32 &&& Int32.toUInt32 31)).toInt32) &&& (252645135 : Int32))).toUInt32 >>> ((8 : Int32).toUInt32 &&& Int32.toUInt32 31)).toInt32)).toUInt32 >>> ((16 : Int32).toUInt32 &&& Int32.toUInt32 31)).toInt32))]) hx hb dJ6_bitCount_0f7a4_47 rfl hl (by decide) rfl (fun ls hl => ?_)
  refine lv_iload_n hx hb dJ6_bitCount_0f7a4_48 rfl (lv_at hl 0 rfl) ?_
  refine lv_bipush (v := 63) hx hb dJ6_bitCount_0f7a4_49 (by decide) ?_
  refine lv_iand hx hb dJ6_bitCount_0f7a4_51 ?_
  have e9 : ((((((((a1 - (((a1).toUInt32 >>> ((1 : Int32).toUInt32 &&& Int32.toUInt32 31)).toInt32 &&& (1431655765 : Int32))) &&& (858993459 : Int32)) + ((((a1 - (((a1).toUInt32 >>> ((1 : Int32).toUInt32 &&& Int32.toUInt32 31)).toInt32 &&& (1431655765 : Int32)))).toUInt32 >>> ((2 : Int32).toUInt32 &&& Int32.toUInt32 31)).toInt32 &&& (858993459 : Int32))) + (((((a1 - (((a1).toUInt32 >>> ((1 : Int32).toUInt32 &&& Int32.toUInt32 31)).toInt32 &&& (1431655765 : Int32))) &&& (858993459 : Int32)) + ((((a1 - (((a1).toUInt32 >>> ((1 : Int32).toUInt32 &&& Int32.toUInt32 31)).toInt32 &&& (1431655765 : Int32)))).toUInt32 >>> ((2 : Int32).toUInt32 &&& Int32.toUInt32 31)).toInt32 &&& (858993459 : Int32)))).toUInt32 >>> ((4 : Int32).toUInt32 &&& Int32.toUInt32 31)).toInt32) &&& (252645135 : Int32)) + (((((((a1 - (((a1).toUInt32 >>> ((1 : Int32).toUInt32 &&& Int32.toUInt32 31)).toInt32 &&& (1431655765 : Int32))) &&& (858993459 : Int32)) + ((((a1 - (((a1).toUInt32 >>> ((1 : Int32).toUInt32 &&& Int32.toUInt32 31)).toInt32 &&& (1431655765 : Int32)))).toUInt32 >>> ((2 : Int32).toUInt32 &&& Int32.toUInt32 31)).toInt32 &&& (858993459 : Int32))) + (((((a1 - (((a1).toUInt32 >>> ((1 : Int32).toUInt32 &&& Int32.toUInt32 31)).toInt32 &&& (1431655765 : Int32))) &&& (858993459 : Int32)) + ((((a1 - (((a1).toUInt32 >>> ((1 : Int32).toUInt32 &&& Int32.toUInt32 31)).toInt32 &&& (1431655765 : Int32)))).toUInt32 >>> ((2 : Int32).toUInt32 &&& Int32.toUInt32 31)).toInt32 &&& (858993459 : Int32)))).toUInt32 >>> ((4 : Int32).toUInt32 &&& Int32.toUInt32 31)).toInt32) &&& (252645135 : Int32))).toUInt32 >>> ((8 : Int32).toUInt32 &&& Int32.toUInt32 31)).toInt32) + ((((((((a1 - (((a1).toUInt32 >>> ((1 : Int32).toUInt32 &&& Int32.toUInt32 31)).toInt32 &&& (1431655765 : Int32))) &&& (858993459 : Int32)) + ((((a1 - (((a1).toUInt32 >>> ((1 : Int32).toUInt32 &&& Int32.toUInt32 31)).toInt32 &&& (1431655765 : Int32)))).toUInt32 >>> ((2 : Int32).toUInt32 &&& Int32.toUInt32 31)).toInt32 &&& (858993459 : Int32))) + (((((a1 - (((a1).toUInt32 >>> ((1 : Int32).toUInt32 &&& Int32.toUInt32 31)).toInt32 &&& (1431655765 : Int32))) &&& (858993459 : Int32)) + ((((a1 - (((a1).toUInt32 >>> ((1 : Int32).toUInt32 &&& Int32.toUInt32 31)).toInt32 &&& (1431655765 : Int32)))).toUInt32 >>> ((2 : Int32).toUInt32 &&& Int32.toUInt32 31)).toInt32 &&& (858993459 : Int32)))).toUInt32 >>> ((4 : Int32).toUInt32 &&& Int32.toUInt32 31)).toInt32) &&& (252645135 : Int32)) + (((((((a1 - (((a1).toUInt32 >>> ((1 : Int32).toUInt32 &&& Int32.toUInt32 31)).toInt32 &&& (1431655765 : Int32))) &&& (858993459 : Int32)) + ((((a1 - (((a1).toUInt32 >>> ((1 : Int32).toUInt32 &&& Int32.toUInt32 31)).toInt32 &&& (1431655765 : Int32)))).toUInt32 >>> ((2 : Int32).toUInt32 &&& Int32.toUInt32 31)).toInt32 &&& (858993459 : Int32))) + (((((a1 - (((a1).toUInt32 >>> ((1 : Int32).toUInt32 &&& Int32.toUInt32 31)).toInt32 &&& (1431655765 : Int32))) &&& (858993459 : Int32)) + ((((a1 - (((a1).toUInt32 >>> ((1 : Int32).toUInt32 &&& Int32.toUInt32 31)).toInt32 &&& (1431655765 : Int32)))).toUInt32 >>> ((2 : Int32).toUInt32 &&& Int32.toUInt32 31)).toInt32 &&& (858993459 : Int32)))).toUInt32 >>> ((4 : Int32).toUInt32 &&& Int32.toUInt32 31)).toInt32) &&& (252645135 : Int32))).toUInt32 >>> ((8 : Int32).toUInt32 &&& Int32.toUInt32 31)).toInt32)).toUInt32 >>> ((16 : Int32).toUInt32 &&& Int32.toUInt32 31)).toInt32) &&& (63 : Int32)) = (pJ6_bitCount_0f7a4 a1) := rfl
  exact W.iret (v := ((((((((a1 - (((a1).toUInt32 >>> ((1 : Int32).toUInt32 &&& Int32.toUInt32 31)).toInt32 &&& (1431655765 : Int32))) &&& (858993459 : Int32)) + ((((a1 - (((a1).toUInt32 >>> ((1 : Int32).toUInt32 &&& Int32.toUInt32 31)).toInt32 &&& (1431655765 : Int32)))).toUInt32 >>> ((2 : Int32).toUInt32 &&& Int32.toUInt32 31)).toInt32 &&& (858993459 : Int32))) + (((((a1 - (((a1).toUInt32 >>> ((1 : Int32).toUInt32 &&& Int32.toUInt32 31)).toInt32 &&& (1431655765 : Int32))) &&& (858993459 : Int32)) + ((((a1 - (((a1).toUInt32 >>> ((1 : Int32).toUInt32 &&& Int32.toUInt32 31)).toInt32 &&& (1431655765 : Int32)))).toUInt32 >>> ((2 : Int32).toUInt32 &&& Int32.toUInt32 31)).toInt32 &&& (858993459 : Int32)))).toUInt32 >>> ((4 : Int32).toUInt32 &&& Int32.toUInt32 31)).toInt32) &&& (252645135 : Int32)) + (((((((a1 - (((a1).toUInt32 >>> ((1 : Int32).toUInt32 &&& Int32.toUInt32 31)).toInt32 &&& (1431655765 : Int32))) &&& (858993459 : Int32)) + ((((a1 - (((a1).toUInt32 >>> ((1 : Int32).toUInt32 &&& Int32.toUInt32 31)).toInt32 &&& (1431655765 : Int32)))).toUInt32 >>> ((2 : Int32).toUInt32 &&& Int32.toUInt32 31)).toInt32 &&& (858993459 : Int32))) + (((((a1 - (((a1).toUInt32 >>> ((1 : Int32).toUInt32 &&& Int32.toUInt32 31)).toInt32 &&& (1431655765 : Int32))) &&& (858993459 : Int32)) + ((((a1 - (((a1).toUInt32 >>> ((1 : Int32).toUInt32 &&& Int32.toUInt32 31)).toInt32 &&& (1431655765 : Int32)))).toUInt32 >>> ((2 : Int32).toUInt32 &&& Int32.toUInt32 31)).toInt32 &&& (858993459 : Int32)))).toUInt32 >>> ((4 : Int32).toUInt32 &&& Int32.toUInt32 31)).toInt32) &&& (252645135 : Int32))).toUInt32 >>> ((8 : Int32).toUInt32 &&& Int32.toUInt32 31)).toInt32) + ((((((((a1 - (((a1).toUInt32 >>> ((1 : Int32).toUInt32 &&& Int32.toUInt32 31)).toInt32 &&& (1431655765 : Int32))) &&& (858993459 : Int32)) + ((((a1 - (((a1).toUInt32 >>> ((1 : Int32).toUInt32 &&& Int32.toUInt32 31)).toInt32 &&& (1431655765 : Int32)))).toUInt32 >>> ((2 : Int32).toUInt32 &&& Int32.toUInt32 31)).toInt32 &&& (858993459 : Int32))) + (((((a1 - (((a1).toUInt32 >>> ((1 : Int32).toUInt32 &&& Int32.toUInt32 31)).toInt32 &&& (1431655765 : Int32))) &&& (858993459 : Int32)) + ((((a1 - (((a1).toUInt32 >>> ((1 : Int32).toUInt32 &&& Int32.toUInt32 31)).toInt32 &&& (1431655765 : Int32)))).toUInt32 >>> ((2 : Int32).toUInt32 &&& Int32.toUInt32 31)).toInt32 &&& (858993459 : Int32)))).toUInt32 >>> ((4 : Int32).toUInt32 &&& Int32.toUInt32 31)).toInt32) &&& (252645135 : Int32)) + (((((((a1 - (((a1).toUInt32 >>> ((1 : Int32).toUInt32 &&& Int32.toUInt32 31)).toInt32 &&& (1431655765 : Int32))) &&& (858993459 : Int32)) + ((((a1 - (((a1).toUInt32 >>> ((1 : Int32).toUInt32 &&& Int32.toUInt32 31)).toInt32 &&& (1431655765 : Int32)))).toUInt32 >>> ((2 : Int32).toUInt32 &&& Int32.toUInt32 31)).toInt32 &&& (858993459 : Int32))) + (((((a1 - (((a1).toUInt32 >>> ((1 : Int32).toUInt32 &&& Int32.toUInt32 31)).toInt32 &&& (1431655765 : Int32))) &&& (858993459 : Int32)) + ((((a1 - (((a1).toUInt32 >>> ((1 : Int32).toUInt32 &&& Int32.toUInt32 31)).toInt32 &&& (1431655765 : Int32)))).toUInt32 >>> ((2 : Int32).toUInt32 &&& Int32.toUInt32 31)).toInt32 &&& (858993459 : Int32)))).toUInt32 >>> ((4 : Int32).toUInt32 &&& Int32.toUInt32 31)).toInt32) &&& (252645135 : Int32))).toUInt32 >>> ((8 : Int32).toUInt32 &&& Int32.toUInt32 31)).toInt32)).toUInt32 >>> ((16 : Int32).toUInt32 &&& Int32.toUInt32 31)).toInt32) &&& (63 : Int32))) hx hb hr (fun t ht hW => ⟨_, rfl, e9, ht⟩) (fun _ h => absurd h List.not_mem_nil) dJ6_bitCount_0f7a4_52
theorem bS_J6_bitCount_0f7a4 : BS yJ6_bitCount_0f7a4 cJ6_bitCount_0f7a4 1 (some .int) 1 := ⟨wcd_J6_bitCount_0f7a4, wst_J6_bitCount_0f7a4, win_RJ6, by decide +kernel⟩
def pX4_roofAndNext (a1 : Int32) (a2 : Int32) (a3 : Int32) : Int32 := (if a3 < 0 then 0 else (if a1 = (-1) then 0 else (if a3 < 1 then ((0 : Int32) ||| ((1 : Int32) <<< (a1 &&& 31))) else (if (pX4_nextRoof a1 a2) = (-1) then ((0 : Int32) ||| ((1 : Int32) <<< (a1 &&& 31))) else (if a3 < 2 then (((0 : Int32) ||| ((1 : Int32) <<< (a1 &&& 31))) ||| ((1 : Int32) <<< ((pX4_nextRoof a1 a2) &&& 31))) else (if (pX4_nextRoof (pX4_nextRoof a1 a2) a2) = (-1) then (((0 : Int32) ||| ((1 : Int32) <<< (a1 &&& 31))) ||| ((1 : Int32) <<< ((pX4_nextRoof a1 a2) &&& 31))) else (if a3 < 3 then ((((0 : Int32) ||| ((1 : Int32) <<< (a1 &&& 31))) ||| ((1 : Int32) <<< ((pX4_nextRoof a1 a2) &&& 31))) ||| ((1 : Int32) <<< ((pX4_nextRoof (pX4_nextRoof a1 a2) a2) &&& 31))) else (if (pX4_nextRoof (pX4_nextRoof (pX4_nextRoof a1 a2) a2) a2) = (-1) then ((((0 : Int32) ||| ((1 : Int32) <<< (a1 &&& 31))) ||| ((1 : Int32) <<< ((pX4_nextRoof a1 a2) &&& 31))) ||| ((1 : Int32) <<< ((pX4_nextRoof (pX4_nextRoof a1 a2) a2) &&& 31))) else (((((0 : Int32) ||| ((1 : Int32) <<< (a1 &&& 31))) ||| ((1 : Int32) <<< ((pX4_nextRoof a1 a2) &&& 31))) ||| ((1 : Int32) <<< ((pX4_nextRoof (pX4_nextRoof a1 a2) a2) &&& 31))) ||| ((1 : Int32) <<< ((pX4_nextRoof (pX4_nextRoof (pX4_nextRoof a1 a2) a2) a2) &&& 31)))))))))))
set_option maxHeartbeats 4000000 in
set_option maxRecDepth 100000 in
theorem kX4_roofAndNext (l : Launch) (D : va_G) (cyC cyI cyO : ClassId) (a1 : Int32) (a2 : Int32) (a3 : Int32) (h3 : a3 < 4) : RO l yX4_roofAndNext (Ty yX4_roofAndNext cX4_roofAndNext 6 (some .int)) ({ frames := 1, cells := 0, slots := 0, locals := 21 } : Room) D cyC cyI cyO [] [.int a1, .int a2, .int a3] (pX4_roofAndNext a1 a2 a3) := by
  refine Met.ofW (cc := cX4_roofAndNext) (maxL := 6) (ret := (some .int)) (by decide) rfl ?_
  intro p e s m args below meth cd s₁ B hml hv
  obtain ⟨rfl, hP, hK⟩ := hv
  have hx := B.exec
  have hb := B.bytes
  have hr := B.returns
  have hts : ∀ w ∈ TB, w.before ([.int a1, .int a2, .int a3] : List Value).toArray s = true := fun w h => atoms_spec (ws := (Ty yX4_roofAndNext cX4_roofAndNext 6 (some .int))) B.pre w (List.mem_cons_of_mem _ h)
  have hown : s.vm.findClass RX4 = some m.cls := findClass_of_methodNamed B.named
  have hlocks := B.notSynchronized
  have hl := lv_entry ([.int a1, .int a2, .int a3]) (n := 6) (Nat.le_of_ble_eq_true rfl)
  rw [lg_entry_eq]
  generalize (lg_sl ([.int a1, .int a2, .int a3]) ++ List.replicate (6 - (lg_sl ([.int a1, .int a2, .int a3])).length) Slot.unset).toArray = ls at hl ⊢
  have hl : lv_has ls 6 [(0, .int a1), (1, .int a2), (2, .int a3)] := hl
  refine lv_iconst (v := 0) hx hb dX4_roofAndNext_0 (by decide) ?_
  refine lv_istore_n (lv' := [(3, .int 0), (0, .int a1), (1, .int a2), (2, .int a3)]) hx hb dX4_roofAndNext_1 rfl hl (by decide) rfl (fun ls hl => ?_)
  refine lv_iload_n hx hb dX4_roofAndNext_2 rfl (lv_at hl 1 rfl) ?_
  refine lv_istore (lv' := [(4, .int a1), (3, .int 0), (0, .int a1), (1, .int a2), (2, .int a3)]) hx hb dX4_roofAndNext_3 hl (by decide) rfl (fun ls hl => ?_)
  refine lv_iconst (v := 0) hx hb dX4_roofAndNext_5 (by decide) ?_
  refine lv_istore (lv' := [(5, .int 0), (4, .int a1), (3, .int 0), (0, .int a1), (1, .int a2), (2, .int a3)]) hx hb dX4_roofAndNext_6 hl (by decide) rfl (fun ls hl => ?_)
  refine lv_iload hx hb dX4_roofAndNext_8 (lv_at hl 0 rfl) ?_
  refine lv_iload_n hx hb dX4_roofAndNext_10 rfl (lv_at hl 5 rfl) ?_
  refine lv_icmp_gt (tgt := 41) hx hb dX4_roofAndNext_11 (by decide) (fun c_1 => ?_) (fun c_1 => ?_)
  · refine lv_iload_n hx hb dX4_roofAndNext_41 rfl (lv_at hl 2 rfl) ?_
    have e9 : 0 = (pX4_roofAndNext a1 a2 a3) := by simp only [pX4_roofAndNext, if_pos c_1]
    exact W.iret (v := 0) hx hb hr (fun t ht hW => ⟨_, rfl, e9, ht⟩) (fun _ h => absurd h List.not_mem_nil) dX4_roofAndNext_42
  · refine lv_iload hx hb dX4_roofAndNext_14 (lv_at hl 1 rfl) ?_
    refine lv_iconst (v := (-1)) hx hb dX4_roofAndNext_16 (by decide) ?_
    refine lv_icmp_eq (tgt := 41) hx hb dX4_roofAndNext_17 (by decide) (fun c_2 => ?_) (fun c_2 => ?_)
    · refine lv_iload_n hx hb dX4_roofAndNext_41 rfl (lv_at hl 2 rfl) ?_
      have e9 : 0 = (pX4_roofAndNext a1 a2 a3) := by simp only [pX4_roofAndNext, if_neg c_1, if_pos c_2]
      exact W.iret (v := 0) hx hb hr (fun t ht hW => ⟨_, rfl, e9, ht⟩) (fun _ h => absurd h List.not_mem_nil) dX4_roofAndNext_42
    · refine lv_iload_n hx hb dX4_roofAndNext_20 rfl (lv_at hl 2 rfl) ?_
      refine lv_iconst (v := 1) hx hb dX4_roofAndNext_21 (by decide) ?_
      refine lv_iload hx hb dX4_roofAndNext_22 (lv_at hl 1 rfl) ?_
      refine lv_ishl hx hb dX4_roofAndNext_24 ?_
      refine lv_ior hx hb dX4_roofAndNext_25 ?_
      refine lv_istore_n (lv' := [(3, .int ((0 : Int32) ||| ((1 : Int32) <<< (a1 &&& 31)))), (5, .int 0), (4, .int a1), (0, .int a1), (1, .int a2), (2, .int a3)]) hx hb dX4_roofAndNext_26 rfl hl (by decide) rfl (fun ls hl => ?_)
      refine lv_iload hx hb dX4_roofAndNext_27 (lv_at hl 2 rfl) ?_
      refine lv_iload_n hx hb dX4_roofAndNext_29 rfl (lv_at hl 4 rfl) ?_
      refine rS (As := [.int a1, .int a2]) (rest := []) hx hb hml hown hts hl.1 (kX4_nextRoof l D cyC cyI cyO a1 a2) bS_X4_nextRoof  wml_RX4_33 ⟨rfl, rfl⟩ ⟨Nat.le_of_ble_eq_true rfl, Nat.le_of_ble_eq_true rfl, Nat.zero_le _, Nat.zero_le _⟩ [] rfl hP hK rfl rfl (Nat.le_of_ble_eq_true rfl) dX4_roofAndNext_30 ?_
      refine lv_istore (lv' := [(4, .int (pX4_nextRoof a1 a2)), (3, .int ((0 : Int32) ||| ((1 : Int32) <<< (a1 &&& 31)))), (5, .int 0), (0, .int a1), (1, .int a2), (2, .int a3)]) hx hb dX4_roofAndNext_33 hl (by decide) rfl (fun ls hl => ?_)
      refine lv_iinc (v := 1) (lv' := [(5, .int 1), (4, .int (pX4_nextRoof a1 a2)), (3, .int ((0 : Int32) ||| ((1 : Int32) <<< (a1 &&& 31)))), (0, .int a1), (1, .int a2), (2, .int a3)]) hx hb dX4_roofAndNext_35 hl (k := 2) rfl (by decide) (by decide) rfl (fun ls hl => ?_)
      refine lv_goto (tgt := 8) hx hb dX4_roofAndNext_38 (by decide) ?_
      refine lv_iload hx hb dX4_roofAndNext_8 (lv_at hl 0 rfl) ?_
      refine lv_iload_n hx hb dX4_roofAndNext_10 rfl (lv_at hl 5 rfl) ?_
      refine lv_icmp_gt (tgt := 41) hx hb dX4_roofAndNext_11 (by decide) (fun c_3 => ?_) (fun c_3 => ?_)
      · refine lv_iload_n hx hb dX4_roofAndNext_41 rfl (lv_at hl 2 rfl) ?_
        have e9 : ((0 : Int32) ||| ((1 : Int32) <<< (a1 &&& 31))) = (pX4_roofAndNext a1 a2 a3) := by simp only [pX4_roofAndNext, if_neg c_1, if_neg c_2, if_pos c_3]
        exact W.iret (v := ((0 : Int32) ||| ((1 : Int32) <<< (a1 &&& 31)))) hx hb hr (fun t ht hW => ⟨_, rfl, e9, ht⟩) (fun _ h => absurd h List.not_mem_nil) dX4_roofAndNext_42
      · refine lv_iload hx hb dX4_roofAndNext_14 (lv_at hl 1 rfl) ?_
        refine lv_iconst (v := (-1)) hx hb dX4_roofAndNext_16 (by decide) ?_
        refine lv_icmp_eq (tgt := 41) hx hb dX4_roofAndNext_17 (by decide) (fun c_4 => ?_) (fun c_4 => ?_)
        · refine lv_iload_n hx hb dX4_roofAndNext_41 rfl (lv_at hl 2 rfl) ?_
          have e9 : ((0 : Int32) ||| ((1 : Int32) <<< (a1 &&& 31))) = (pX4_roofAndNext a1 a2 a3) := by simp only [pX4_roofAndNext, if_neg c_1, if_neg c_2, if_neg c_3, if_pos c_4]
          exact W.iret (v := ((0 : Int32) ||| ((1 : Int32) <<< (a1 &&& 31)))) hx hb hr (fun t ht hW => ⟨_, rfl, e9, ht⟩) (fun _ h => absurd h List.not_mem_nil) dX4_roofAndNext_42
        · refine lv_iload_n hx hb dX4_roofAndNext_20 rfl (lv_at hl 2 rfl) ?_
          refine lv_iconst (v := 1) hx hb dX4_roofAndNext_21 (by decide) ?_
          refine lv_iload hx hb dX4_roofAndNext_22 (lv_at hl 1 rfl) ?_
          refine lv_ishl hx hb dX4_roofAndNext_24 ?_
          refine lv_ior hx hb dX4_roofAndNext_25 ?_
          refine lv_istore_n (lv' := [(3, .int (((0 : Int32) ||| ((1 : Int32) <<< (a1 &&& 31))) ||| ((1 : Int32) <<< ((pX4_nextRoof a1 a2) &&& 31)))), (5, .int 1), (4, .int (pX4_nextRoof a1 a2)), (0, .int a1), (1, .int a2), (2, .int a3)]) hx hb dX4_roofAndNext_26 rfl hl (by decide) rfl (fun ls hl => ?_)
          refine lv_iload hx hb dX4_roofAndNext_27 (lv_at hl 2 rfl) ?_
          refine lv_iload_n hx hb dX4_roofAndNext_29 rfl (lv_at hl 4 rfl) ?_
          refine rS (As := [.int (pX4_nextRoof a1 a2), .int a2]) (rest := []) hx hb hml hown hts hl.1 (kX4_nextRoof l D cyC cyI cyO (pX4_nextRoof a1 a2) a2) bS_X4_nextRoof  wml_RX4_33 ⟨rfl, rfl⟩ ⟨Nat.le_of_ble_eq_true rfl, Nat.le_of_ble_eq_true rfl, Nat.zero_le _, Nat.zero_le _⟩ [] rfl hP hK rfl rfl (Nat.le_of_ble_eq_true rfl) dX4_roofAndNext_30 ?_
          refine lv_istore (lv' := [(4, .int (pX4_nextRoof (pX4_nextRoof a1 a2) a2)), (3, .int (((0 : Int32) ||| ((1 : Int32) <<< (a1 &&& 31))) ||| ((1 : Int32) <<< ((pX4_nextRoof a1 a2) &&& 31)))), (5, .int 1), (0, .int a1), (1, .int a2), (2, .int a3)]) hx hb dX4_roofAndNext_33 hl (by decide) rfl (fun ls hl => ?_)
          refine lv_iinc (v := 2) (lv' := [(5, .int 2), (4, .int (pX4_nextRoof (pX4_nextRoof a1 a2) a2)), (3, .int (((0 : Int32) ||| ((1 : Int32) <<< (a1 &&& 31))) ||| ((1 : Int32) <<< ((pX4_nextRoof a1 a2) &&& 31)))), (0, .int a1), (1, .int a2), (2, .int a3)]) hx hb dX4_roofAndNext_35 hl (k := 2) rfl (by decide) (by decide) rfl (fun ls hl => ?_)
          refine lv_goto (tgt := 8) hx hb dX4_roofAndNext_38 (by decide) ?_
          refine lv_iload hx hb dX4_roofAndNext_8 (lv_at hl 0 rfl) ?_
          refine lv_iload_n hx hb dX4_roofAndNext_10 rfl (lv_at hl 5 rfl) ?_
          refine lv_icmp_gt (tgt := 41) hx hb dX4_roofAndNext_11 (by decide) (fun c_5 => ?_) (fun c_5 => ?_)
          · refine lv_iload_n hx hb dX4_roofAndNext_41 rfl (lv_at hl 2 rfl) ?_
            have e9 : (((0 : Int32) ||| ((1 : Int32) <<< (a1 &&& 31))) ||| ((1 : Int32) <<< ((pX4_nextRoof a1 a2) &&& 31))) = (pX4_roofAndNext a1 a2 a3) := by simp only [pX4_roofAndNext, if_neg c_1, if_neg c_2, if_neg c_3, if_neg c_4, if_pos c_5]
            exact W.iret (v := (((0 : Int32) ||| ((1 : Int32) <<< (a1 &&& 31))) ||| ((1 : Int32) <<< ((pX4_nextRoof a1 a2) &&& 31)))) hx hb hr (fun t ht hW => ⟨_, rfl, e9, ht⟩) (fun _ h => absurd h List.not_mem_nil) dX4_roofAndNext_42
          · refine lv_iload hx hb dX4_roofAndNext_14 (lv_at hl 1 rfl) ?_
            refine lv_iconst (v := (-1)) hx hb dX4_roofAndNext_16 (by decide) ?_
            refine lv_icmp_eq (tgt := 41) hx hb dX4_roofAndNext_17 (by decide) (fun c_6 => ?_) (fun c_6 => ?_)
            · refine lv_iload_n hx hb dX4_roofAndNext_41 rfl (lv_at hl 2 rfl) ?_
              have e9 : (((0 : Int32) ||| ((1 : Int32) <<< (a1 &&& 31))) ||| ((1 : Int32) <<< ((pX4_nextRoof a1 a2) &&& 31))) = (pX4_roofAndNext a1 a2 a3) := by simp only [pX4_roofAndNext, if_neg c_1, if_neg c_2, if_neg c_3, if_neg c_4, if_neg c_5, if_pos c_6]
              exact W.iret (v := (((0 : Int32) ||| ((1 : Int32) <<< (a1 &&& 31))) ||| ((1 : Int32) <<< ((pX4_nextRoof a1 a2) &&& 31)))) hx hb hr (fun t ht hW => ⟨_, rfl, e9, ht⟩) (fun _ h => absurd h List.not_mem_nil) dX4_roofAndNext_42
            · refine lv_iload_n hx hb dX4_roofAndNext_20 rfl (lv_at hl 2 rfl) ?_
              refine lv_iconst (v := 1) hx hb dX4_roofAndNext_21 (by decide) ?_
              refine lv_iload hx hb dX4_roofAndNext_22 (lv_at hl 1 rfl) ?_
              refine lv_ishl hx hb dX4_roofAndNext_24 ?_
              refine lv_ior hx hb dX4_roofAndNext_25 ?_
              refine lv_istore_n (lv' := [(3, .int ((((0 : Int32) ||| ((1 : Int32) <<< (a1 &&& 31))) ||| ((1 : Int32) <<< ((pX4_nextRoof a1 a2) &&& 31))) ||| ((1 : Int32) <<< ((pX4_nextRoof (pX4_nextRoof a1 a2) a2) &&& 31)))), (5, .int 2), (4, .int (pX4_nextRoof (pX4_nextRoof a1 a2) a2)), (0, .int a1), (1, .int a2), (2, .int a3)]) hx hb dX4_roofAndNext_26 rfl hl (by decide) rfl (fun ls hl => ?_)
              refine lv_iload hx hb dX4_roofAndNext_27 (lv_at hl 2 rfl) ?_
              refine lv_iload_n hx hb dX4_roofAndNext_29 rfl (lv_at hl 4 rfl) ?_
              refine rS (As := [.int (pX4_nextRoof (pX4_nextRoof a1 a2) a2), .int a2]) (rest := []) hx hb hml hown hts hl.1 (kX4_nextRoof l D cyC cyI cyO (pX4_nextRoof (pX4_nextRoof a1 a2) a2) a2) bS_X4_nextRoof  wml_RX4_33 ⟨rfl, rfl⟩ ⟨Nat.le_of_ble_eq_true rfl, Nat.le_of_ble_eq_true rfl, Nat.zero_le _, Nat.zero_le _⟩ [] rfl hP hK rfl rfl (Nat.le_of_ble_eq_true rfl) dX4_roofAndNext_30 ?_
              refine lv_istore (lv' := [(4, .int (pX4_nextRoof (pX4_nextRoof (pX4_nextRoof a1 a2) a2) a2)), (3, .int ((((0 : Int32) ||| ((1 : Int32) <<< (a1 &&& 31))) ||| ((1 : Int32) <<< ((pX4_nextRoof a1 a2) &&& 31))) ||| ((1 : Int32) <<< ((pX4_nextRoof (pX4_nextRoof a1 a2) a2) &&& 31)))), (5, .int 2), (0, .int a1), (1, .int a2), (2, .int a3)]) hx hb dX4_roofAndNext_33 hl (by decide) rfl (fun ls hl => ?_)
              refine lv_iinc (v := 3) (lv' := [(5, .int 3), (4, .int (pX4_nextRoof (pX4_nextRoof (pX4_nextRoof a1 a2) a2) a2)), (3, .int ((((0 : Int32) ||| ((1 : Int32) <<< (a1 &&& 31))) ||| ((1 : Int32) <<< ((pX4_nextRoof a1 a2) &&& 31))) ||| ((1 : Int32) <<< ((pX4_nextRoof (pX4_nextRoof a1 a2) a2) &&& 31)))), (0, .int a1), (1, .int a2), (2, .int a3)]) hx hb dX4_roofAndNext_35 hl (k := 2) rfl (by decide) (by decide) rfl (fun ls hl => ?_)
              refine lv_goto (tgt := 8) hx hb dX4_roofAndNext_38 (by decide) ?_
              refine lv_iload hx hb dX4_roofAndNext_8 (lv_at hl 0 rfl) ?_
              refine lv_iload_n hx hb dX4_roofAndNext_10 rfl (lv_at hl 5 rfl) ?_
              refine lv_icmp_gt (tgt := 41) hx hb dX4_roofAndNext_11 (by decide) (fun c_7 => ?_) (fun c_7 => ?_)
              · refine lv_iload_n hx hb dX4_roofAndNext_41 rfl (lv_at hl 2 rfl) ?_
                have e9 : ((((0 : Int32) ||| ((1 : Int32) <<< (a1 &&& 31))) ||| ((1 : Int32) <<< ((pX4_nextRoof a1 a2) &&& 31))) ||| ((1 : Int32) <<< ((pX4_nextRoof (pX4_nextRoof a1 a2) a2) &&& 31))) = (pX4_roofAndNext a1 a2 a3) := by simp only [pX4_roofAndNext, if_neg c_1, if_neg c_2, if_neg c_3, if_neg c_4, if_neg c_5, if_neg c_6, if_pos c_7]
                exact W.iret (v := ((((0 : Int32) ||| ((1 : Int32) <<< (a1 &&& 31))) ||| ((1 : Int32) <<< ((pX4_nextRoof a1 a2) &&& 31))) ||| ((1 : Int32) <<< ((pX4_nextRoof (pX4_nextRoof a1 a2) a2) &&& 31)))) hx hb hr (fun t ht hW => ⟨_, rfl, e9, ht⟩) (fun _ h => absurd h List.not_mem_nil) dX4_roofAndNext_42
              · refine lv_iload hx hb dX4_roofAndNext_14 (lv_at hl 1 rfl) ?_
                refine lv_iconst (v := (-1)) hx hb dX4_roofAndNext_16 (by decide) ?_
                refine lv_icmp_eq (tgt := 41) hx hb dX4_roofAndNext_17 (by decide) (fun c_8 => ?_) (fun c_8 => ?_)
                · refine lv_iload_n hx hb dX4_roofAndNext_41 rfl (lv_at hl 2 rfl) ?_
                  have e9 : ((((0 : Int32) ||| ((1 : Int32) <<< (a1 &&& 31))) ||| ((1 : Int32) <<< ((pX4_nextRoof a1 a2) &&& 31))) ||| ((1 : Int32) <<< ((pX4_nextRoof (pX4_nextRoof a1 a2) a2) &&& 31))) = (pX4_roofAndNext a1 a2 a3) := by simp only [pX4_roofAndNext, if_neg c_1, if_neg c_2, if_neg c_3, if_neg c_4, if_neg c_5, if_neg c_6, if_neg c_7, if_pos c_8]
                  exact W.iret (v := ((((0 : Int32) ||| ((1 : Int32) <<< (a1 &&& 31))) ||| ((1 : Int32) <<< ((pX4_nextRoof a1 a2) &&& 31))) ||| ((1 : Int32) <<< ((pX4_nextRoof (pX4_nextRoof a1 a2) a2) &&& 31)))) hx hb hr (fun t ht hW => ⟨_, rfl, e9, ht⟩) (fun _ h => absurd h List.not_mem_nil) dX4_roofAndNext_42
                · refine lv_iload_n hx hb dX4_roofAndNext_20 rfl (lv_at hl 2 rfl) ?_
                  refine lv_iconst (v := 1) hx hb dX4_roofAndNext_21 (by decide) ?_
                  refine lv_iload hx hb dX4_roofAndNext_22 (lv_at hl 1 rfl) ?_
                  refine lv_ishl hx hb dX4_roofAndNext_24 ?_
                  refine lv_ior hx hb dX4_roofAndNext_25 ?_
                  refine lv_istore_n (lv' := [(3, .int (((((0 : Int32) ||| ((1 : Int32) <<< (a1 &&& 31))) ||| ((1 : Int32) <<< ((pX4_nextRoof a1 a2) &&& 31))) ||| ((1 : Int32) <<< ((pX4_nextRoof (pX4_nextRoof a1 a2) a2) &&& 31))) ||| ((1 : Int32) <<< ((pX4_nextRoof (pX4_nextRoof (pX4_nextRoof a1 a2) a2) a2) &&& 31)))), (5, .int 3), (4, .int (pX4_nextRoof (pX4_nextRoof (pX4_nextRoof a1 a2) a2) a2)), (0, .int a1), (1, .int a2), (2, .int a3)]) hx hb dX4_roofAndNext_26 rfl hl (by decide) rfl (fun ls hl => ?_)
                  refine lv_iload hx hb dX4_roofAndNext_27 (lv_at hl 2 rfl) ?_
                  refine lv_iload_n hx hb dX4_roofAndNext_29 rfl (lv_at hl 4 rfl) ?_
                  refine rS (As := [.int (pX4_nextRoof (pX4_nextRoof (pX4_nextRoof a1 a2) a2) a2), .int a2]) (rest := []) hx hb hml hown hts hl.1 (kX4_nextRoof l D cyC cyI cyO (pX4_nextRoof (pX4_nextRoof (pX4_nextRoof a1 a2) a2) a2) a2) bS_X4_nextRoof  wml_RX4_33 ⟨rfl, rfl⟩ ⟨Nat.le_of_ble_eq_true rfl, Nat.le_of_ble_eq_true rfl, Nat.zero_le _, Nat.zero_le _⟩ [] rfl hP hK rfl rfl (Nat.le_of_ble_eq_true rfl) dX4_roofAndNext_30 ?_
                  refine lv_istore (lv' := [(4, .int (pX4_nextRoof (pX4_nextRoof (pX4_nextRoof (pX4_nextRoof a1 a2) a2) a2) a2)), (3, .int (((((0 : Int32) ||| ((1 : Int32) <<< (a1 &&& 31))) ||| ((1 : Int32) <<< ((pX4_nextRoof a1 a2) &&& 31))) ||| ((1 : Int32) <<< ((pX4_nextRoof (pX4_nextRoof a1 a2) a2) &&& 31))) ||| ((1 : Int32) <<< ((pX4_nextRoof (pX4_nextRoof (pX4_nextRoof a1 a2) a2) a2) &&& 31)))), (5, .int 3), (0, .int a1), (1, .int a2), (2, .int a3)]) hx hb dX4_roofAndNext_33 hl (by decide) rfl (fun ls hl => ?_)
                  refine lv_iinc (v := 4) (lv' := [(5, .int 4), (4, .int (pX4_nextRoof (pX4_nextRoof (pX4_nextRoof (pX4_nextRoof a1 a2) a2) a2) a2)), (3, .int (((((0 : Int32) ||| ((1 : Int32) <<< (a1 &&& 31))) ||| ((1 : Int32) <<< ((pX4_nextRoof a1 a2) &&& 31))) ||| ((1 : Int32) <<< ((pX4_nextRoof (pX4_nextRoof a1 a2) a2) &&& 31))) ||| ((1 : Int32) <<< ((pX4_nextRoof (pX4_nextRoof (pX4_nextRoof a1 a2) a2) a2) &&& 31)))), (0, .int a1), (1, .int a2), (2, .int a3)]) hx hb dX4_roofAndNext_35 hl (k := 2) rfl (by decide) (by decide) rfl (fun ls hl => ?_)
                  refine lv_goto (tgt := 8) hx hb dX4_roofAndNext_38 (by decide) ?_
                  refine lv_iload hx hb dX4_roofAndNext_8 (lv_at hl 0 rfl) ?_
                  refine lv_iload_n hx hb dX4_roofAndNext_10 rfl (lv_at hl 5 rfl) ?_
                  refine lv_icmp_gt (tgt := 41) hx hb dX4_roofAndNext_11 (by decide) (fun c_9 => ?_) (fun c_9 => absurd h3 c_9)
                  refine lv_iload_n hx hb dX4_roofAndNext_41 rfl (lv_at hl 2 rfl) ?_
                  have e9 : (((((0 : Int32) ||| ((1 : Int32) <<< (a1 &&& 31))) ||| ((1 : Int32) <<< ((pX4_nextRoof a1 a2) &&& 31))) ||| ((1 : Int32) <<< ((pX4_nextRoof (pX4_nextRoof a1 a2) a2) &&& 31))) ||| ((1 : Int32) <<< ((pX4_nextRoof (pX4_nextRoof (pX4_nextRoof a1 a2) a2) a2) &&& 31))) = (pX4_roofAndNext a1 a2 a3) := by simp only [pX4_roofAndNext, if_neg c_1, if_neg c_2, if_neg c_3, if_neg c_4, if_neg c_5, if_neg c_6, if_neg c_7, if_neg c_8]
                  exact W.iret (v := (((((0 : Int32) ||| ((1 : Int32) <<< (a1 &&& 31))) ||| ((1 : Int32) <<< ((pX4_nextRoof a1 a2) &&& 31))) ||| ((1 : Int32) <<< ((pX4_nextRoof (pX4_nextRoof a1 a2) a2) &&& 31))) ||| ((1 : Int32) <<< ((pX4_nextRoof (pX4_nextRoof (pX4_nextRoof a1 a2) a2) a2) &&& 31)))) hx hb hr (fun t ht hW => ⟨_, rfl, e9, ht⟩) (fun _ h => absurd h List.not_mem_nil) dX4_roofAndNext_42
theorem bS_X4_roofAndNext : BS yX4_roofAndNext cX4_roofAndNext 6 (some .int) 3 := ⟨wcd_X4_roofAndNext, wst_X4_roofAndNext, win_RX4, by decide +kernel⟩
def pX4_roofAndNeighbours_L6 (a1 : Int32) : Nat → Int32 := fo (fun i x_i => (if (pX4_nextRoof a1 (nI i)) = (-1) then x_i else (x_i ||| ((1 : Int32) <<< ((pX4_nextRoof a1 (nI i)) &&& 31))))) ((1 : Int32) <<< (a1 &&& 31))
theorem pX4_roofAndNeighbours_L6_s (a1 : Int32) (i : Nat) : pX4_roofAndNeighbours_L6 a1 (i + 1) = (if (pX4_nextRoof a1 (nI i)) = (-1) then (pX4_roofAndNeighbours_L6 a1 i) else ((pX4_roofAndNeighbours_L6 a1 i) ||| ((1 : Int32) <<< ((pX4_nextRoof a1 (nI i)) &&& 31)))) := rfl
theorem pX4_roofAndNeighbours_L6_0 (a1 : Int32) : pX4_roofAndNeighbours_L6 a1 0 = ((1 : Int32) <<< (a1 &&& 31)) := rfl
def pX4_roofAndNeighbours (a1 : Int32) : Int32 := (pX4_roofAndNeighbours_L6 a1 4)
set_option maxHeartbeats 4000000 in
set_option maxRecDepth 100000 in
theorem kX4_roofAndNeighbours (l : Launch) (D : va_G) (cyC cyI cyO : ClassId) (a1 : Int32) : RO l yX4_roofAndNeighbours (Ty yX4_roofAndNeighbours cX4_roofAndNeighbours 4 (some .int)) ({ frames := 1, cells := 0, slots := 0, locals := 21 } : Room) D cyC cyI cyO [] [.int a1] (pX4_roofAndNeighbours a1) := by
  refine Met.ofW (cc := cX4_roofAndNeighbours) (maxL := 4) (ret := (some .int)) (by decide) rfl ?_
  intro p e s m args below meth cd s₁ B hml hv
  obtain ⟨rfl, hP, hK⟩ := hv
  have hx := B.exec
  have hb := B.bytes
  have hr := B.returns
  have hts : ∀ w ∈ TB, w.before ([.int a1] : List Value).toArray s = true := fun w h => atoms_spec (ws := (Ty yX4_roofAndNeighbours cX4_roofAndNeighbours 4 (some .int))) B.pre w (List.mem_cons_of_mem _ h)
  have hown : s.vm.findClass RX4 = some m.cls := findClass_of_methodNamed B.named
  have hlocks := B.notSynchronized
  have hl := lv_entry ([.int a1]) (n := 4) (Nat.le_of_ble_eq_true rfl)
  rw [lg_entry_eq]
  generalize (lg_sl ([.int a1]) ++ List.replicate (4 - (lg_sl ([.int a1])).length) Slot.unset).toArray = ls at hl ⊢
  have hl : lv_has ls 4 [(0, .int a1)] := hl
  refine lv_iconst (v := 1) hx hb dX4_roofAndNeighbours_0 (by decide) ?_
  refine lv_iload_n hx hb dX4_roofAndNeighbours_1 rfl (lv_at hl 0 rfl) ?_
  refine lv_ishl hx hb dX4_roofAndNeighbours_2 ?_
  refine lv_istore_n (lv' := [(1, .int ((1 : Int32) <<< (a1 &&& 31))), (0, .int a1)]) hx hb dX4_roofAndNeighbours_3 rfl hl (by decide) rfl (fun ls hl => ?_)
  refine lv_iconst (v := 0) hx hb dX4_roofAndNeighbours_4 (by decide) ?_
  refine lv_istore_n (lv' := [(2, .int 0), (1, .int ((1 : Int32) <<< (a1 &&& 31))), (0, .int a1)]) hx hb dX4_roofAndNeighbours_5 rfl hl (by decide) rfl (fun ls hl => ?_)
  have key_6 : ∀ k i : Nat, i + k = 4 → ∀ (ls : Array Slot), lv_has ls 4 [(0, .int a1), (1, .int (pX4_roofAndNeighbours_L6 a1 i)), (2, .int (nI i))] → W p l e (headSpec (Ty yX4_roofAndNeighbours cX4_roofAndNeighbours 4 (some .int)) ({ frames := 1, cells := 0, slots := 0, locals := 21 } : Room)).room s m ([.int a1] : List Value).toArray below meth cd s.heap [] 0 0 (MQ below (vp_Si (fun x => x = (pX4_roofAndNeighbours a1))) ([.int a1] : List Value).toArray s 0 0 (fun _ => False)) (F0 m 6 ls []) := by
    intro k
    induction k with
    | zero =>
      intro i hi ls hl
      obtain rfl : i = 4 := hi
      obtain ⟨z_1, hz_1⟩ : ∃ q, q = (pX4_roofAndNeighbours_L6 a1 4) := ⟨_, rfl⟩
      rw [← hz_1] at hl
      refine lv_iload_n hx hb dX4_roofAndNeighbours_6 rfl (lv_at hl 2 rfl) ?_
      refine lv_iconst (v := 4) hx hb dX4_roofAndNeighbours_7 (by decide) ?_
      refine lv_icmp_ge (tgt := 34) hx hb dX4_roofAndNeighbours_8 (by decide) (fun c_2 => ?_) (fun c_2 => absurd (le_of (C := 4) (N := 4) (by decide)) c_2)
      refine lv_iload_n hx hb dX4_roofAndNeighbours_34 rfl (lv_at hl 1 rfl) ?_
      have e9 : z_1 = (pX4_roofAndNeighbours a1) := by simp only [pX4_roofAndNeighbours, ← hz_1]
      exact W.iret (v := z_1) hx hb hr (fun t ht hW => ⟨_, rfl, e9, ht⟩) (fun _ h => absurd h List.not_mem_nil) dX4_roofAndNeighbours_35
    | succ k ih_6 =>
      intro i hi ls hl
      have hlt : i < 4 := by omega
      refine lv_iload_n hx hb dX4_roofAndNeighbours_6 rfl (lv_at hl 2 rfl) ?_
      refine lv_iconst (v := 4) hx hb dX4_roofAndNeighbours_7 (by decide) ?_
      refine lv_icmp_ge (tgt := 34) hx hb dX4_roofAndNeighbours_8 (by decide) (fun c_3 => absurd c_3 (nle_of (C := 4) (N := 4) (by decide) hlt (by decide))) (fun c_3 => ?_)
      refine lv_iload_n hx hb dX4_roofAndNeighbours_11 rfl (lv_at hl 0 rfl) ?_
      refine lv_iload_n hx hb dX4_roofAndNeighbours_12 rfl (lv_at hl 2 rfl) ?_
      refine rS (As := [.int a1, .int (nI i)]) (rest := []) hx hb hml hown hts hl.1 (kX4_nextRoof l D cyC cyI cyO a1 (nI i)) bS_X4_nextRoof  wml_RX4_33 ⟨rfl, rfl⟩ ⟨Nat.le_of_ble_eq_true rfl, Nat.le_of_ble_eq_true rfl, Nat.zero_le _, Nat.zero_le _⟩ [] rfl hP hK rfl rfl (Nat.le_of_ble_eq_true rfl) dX4_roofAndNeighbours_13 ?_
      refine lv_istore_n (lv' := [(3, .int (pX4_nextRoof a1 (nI i))), (0, .int a1), (1, .int (pX4_roofAndNeighbours_L6 a1 i)), (2, .int (nI i))]) hx hb dX4_roofAndNeighbours_16 rfl hl (by decide) rfl (fun ls hl => ?_)
      refine lv_iload_n hx hb dX4_roofAndNeighbours_17 rfl (lv_at hl 0 rfl) ?_
      refine lv_iconst (v := (-1)) hx hb dX4_roofAndNeighbours_18 (by decide) ?_
      refine lv_icmp_eq (tgt := 28) hx hb dX4_roofAndNeighbours_19 (by decide) (fun c_4 => ?_) (fun c_4 => ?_)
      · refine lv_iinc (v := (nI (i + 1))) (lv' := [(2, .int (nI (i + 1))), (3, .int (pX4_nextRoof a1 (nI i))), (0, .int a1), (1, .int (pX4_roofAndNeighbours_L6 a1 i))]) hx hb dX4_roofAndNeighbours_28 hl (k := 3) rfl (nI_succ i).symm (by decide) rfl (fun ls hl => ?_)
        refine lv_goto (tgt := 6) hx hb dX4_roofAndNeighbours_31 (by decide) ?_
        have e8 : pX4_roofAndNeighbours_L6 a1 (i + 1) = (pX4_roofAndNeighbours_L6 a1 i) := by rw [pX4_roofAndNeighbours_L6_s] <;> simp only [if_pos c_4]
        exact ih_6 (i + 1) (by omega) ls (by rw [e8]; exact lv_sub hl [2, 3, 0] rfl)
      · refine lv_iload_n hx hb dX4_roofAndNeighbours_22 rfl (lv_at hl 2 rfl) ?_
        refine lv_iconst (v := 1) hx hb dX4_roofAndNeighbours_23 (by decide) ?_
        refine lv_iload_n hx hb dX4_roofAndNeighbours_24 rfl (lv_at hl 0 rfl) ?_
        refine lv_ishl hx hb dX4_roofAndNeighbours_25 ?_
        refine lv_ior hx hb dX4_roofAndNeighbours_26 ?_
        refine lv_istore_n (lv' := [(1, .int ((pX4_roofAndNeighbours_L6 a1 i) ||| ((1 : Int32) <<< ((pX4_nextRoof a1 (nI i)) &&& 31)))), (3, .int (pX4_nextRoof a1 (nI i))), (0, .int a1), (2, .int (nI i))]) hx hb dX4_roofAndNeighbours_27 rfl hl (by decide) rfl (fun ls hl => ?_)
        refine lv_iinc (v := (nI (i + 1))) (lv' := [(2, .int (nI (i + 1))), (1, .int ((pX4_roofAndNeighbours_L6 a1 i) ||| ((1 : Int32) <<< ((pX4_nextRoof a1 (nI i)) &&& 31)))), (3, .int (pX4_nextRoof a1 (nI i))), (0, .int a1)]) hx hb dX4_roofAndNeighbours_28 hl (k := 3) rfl (nI_succ i).symm (by decide) rfl (fun ls hl => ?_)
        refine lv_goto (tgt := 6) hx hb dX4_roofAndNeighbours_31 (by decide) ?_
        have e8 : pX4_roofAndNeighbours_L6 a1 (i + 1) = ((pX4_roofAndNeighbours_L6 a1 i) ||| ((1 : Int32) <<< ((pX4_nextRoof a1 (nI i)) &&& 31))) := by rw [pX4_roofAndNeighbours_L6_s] <;> simp only [if_neg c_4]
        exact ih_6 (i + 1) (by omega) ls (by rw [e8]; exact lv_sub hl [3, 1, 0] rfl)
  exact key_6 4 0 (Nat.zero_add 4) ls (lv_sub hl [2, 1, 0] rfl)
theorem bS_X4_roofAndNeighbours : BS yX4_roofAndNeighbours cX4_roofAndNeighbours 4 (some .int) 1 := ⟨wcd_X4_roofAndNeighbours, wst_X4_roofAndNeighbours, win_RX4, by decide +kernel⟩
