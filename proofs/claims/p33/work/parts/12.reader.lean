def CHR (x : Int32) : Prop := ∃ q : Nat, q < 65536 ∧ x = nI q
def CH (sg : Nat → Nat → Int32) : Prop := ∀ j : Nat, j < 60 → CHR (sg 0 j)
theorem chn {x : Int32} (h : CHR x) : narrow .char (.int x) = .int x := by
  obtain ⟨q, hq, rfl⟩ := h
  exact (pk_charN hq).1
theorem chf {x : Int32} (h : CHR x) : fits .char (.int x) = true := by
  obtain ⟨q, hq, rfl⟩ := h
  exact (pk_charN hq).2
theorem iw_in {x : Int32} (h : ¬ pX6_isWithin x 0 59 = 0) : vp_in x 60 := by
  unfold pX6_isWithin at h
  split at h
  · exact absurd rfl h
  · split at h
    · exact absurd rfl h
    · rename_i h1 h2
      have a1 := Int32.le_iff_toInt_le.mp (Int32.not_lt.mp h1)
      have a2 := Int32.le_iff_toInt_le.mp (Int32.not_lt.mp h2)
      rw [show (0 : Int32).toInt = 0 from rfl] at a1
      rw [show (59 : Int32).toInt = 59 from rfl] at a2
      rw [vp_in_iff]
      omega
theorem iw_ch {sg : Nat → Nat → Int32} {x : Int32} (hc : CH sg) (h : ¬ pX6_isWithin x 0 59 = 0) : CHR (sg 0 (x).toNatClampNeg) := by
  obtain ⟨j, hj, e⟩ := vp_in_of (iw_in h) (by decide)
  subst e
  rw [nI_clamp (by omega)]
  exact hc j hj
def pX3_add (sg : (Nat → Nat → Int32)) (pw : (Nat → Int32)) (a1 : Int32) : (Nat → Nat → Int32) × (Nat → Int32) := (if (pX6_isWithin (pw 1) 0 59) = 0 then (sg, pw) else ((va_up sg 0 (upd (sg 0) ((pw 1)).toNatClampNeg (vp_nar .char a1))), (va_up pw 1 ((pw 1) + (1 : Int32)))))
set_option maxHeartbeats 4000000 in
set_option maxRecDepth 100000 in
theorem kX3_add (l : Launch) (D : va_G) (cyC cyI cyO : ClassId) (P : Nat → Nat) (sg : (Nat → Nat → Int32)) (pw : (Nat → Int32)) (a1 : Int32) : MU l yX3_add (Ty yX3_add cX3_add 2 none) ({ frames := 1, cells := 0, slots := 0, locals := 22 } : Room) D cyC cyI cyO (wPd cyC P sg pw) [.ref (P 0), .int a1] none (wPd cyC P (pX3_add sg pw a1).1 (pX3_add sg pw a1).2) := by
  intro sz
  refine Met.ofW (cc := cX3_add) (maxL := 2) (ret := none) (by decide) rfl ?_
  intro p e s m args below meth cd s₁ B hml hv
  obtain ⟨rfl, hsz, hP, hK, hD0⟩ := hv
  have hx := B.exec
  have hb := B.bytes
  have hr := B.returns
  have hts : ∀ w ∈ TB, w.before ([.ref (P 0), .int a1] : List Value).toArray s = true := fun w h => atoms_spec (ws := (Ty yX3_add cX3_add 2 none)) B.pre w (List.mem_cons_of_mem _ h)
  have hown : s.vm.findClass RX3 = some m.cls := findClass_of_methodNamed B.named
  have hlocks := B.notSynchronized
  subst hsz
  have hD := hD0.self (sz := s.heap.size)
  have hA : ∀ q : Nat, s.heap.size ≤ q → (va_A (wPd cyC P sg pw) s.heap.size) q := fun q h => Or.inr h
  generalize hAe : va_A (wPd cyC P sg pw) s.heap.size = A0 at hD hA ⊢
  have hS : va_S A0 s.heap s.heap [] := va_S.rf
  have hl := lv_entry ([.ref (P 0), .int a1]) (n := 2) (Nat.le_of_ble_eq_true rfl)
  rw [lg_entry_eq]
  generalize (lg_sl ([.ref (P 0), .int a1]) ++ List.replicate (2 - (lg_sl ([.ref (P 0), .int a1])).length) Slot.unset).toArray = ls at hl ⊢
  have hl : lv_has ls 2 [(0, .ref (P 0)), (1, .int a1)] := hl
  refine lv_aload_n hx hb dX3_add_0 rfl (lv_at hl 0 rfl) ?_
  refine va_get (D := D) (ci := 3) (v := .int (pw 1)) (C := RX3) (T := TX3) (N := 2) hx hb hts inT_X3 hown hK.1 hP 0 rfl rfl 1 (by decide) (hts _ wfl_RX3_15) (fun _ h9 => h9) rfl dX3_add_1 ?_
  refine lv_iconst (v := 0) hx hb dX3_add_4 (by decide) ?_
  refine lv_bipush (v := 59) hx hb dX3_add_5 (by decide) ?_
  refine rN (As := [.int (pw 1), .int 0, .int 59]) (rest := []) hx hb hml hown hts hl.1 (kX6_isWithin l D cyC cyI cyO (pw 1) 0 59) bS_X6_isWithin  hK.2.2.2.2.1 ⟨rfl, rfl⟩ ⟨Nat.le_of_ble_eq_true rfl, Nat.le_of_ble_eq_true rfl, Nat.zero_le _, Nat.zero_le _⟩ [] rfl hP hK rfl rfl (Nat.le_of_ble_eq_true rfl) dX3_add_7 ?_
  refine lv_if_eq (tgt := 33) hx hb dX3_add_10 (by decide) (fun c_1 => ?_) (fun c_1 => ?_)
  · have e9 : (pX3_add sg pw a1) = (sg, pw) := by simp only [pX3_add, if_pos c_1]
    have e9_0 : (pX3_add sg pw a1).1 = sg := by rw [e9]
    have e9_1 : (pX3_add sg pw a1).2 = pw := by rw [e9]
    exact W.vret hx hb hr (fun t ht hW => ⟨⟨rfl, by rw [e9_0, e9_1, ht]; exact hP⟩, hS.F ht⟩) hS.2.2 dX3_add_33
  · refine lv_aload_n hx hb dX3_add_13 rfl (lv_at hl 0 rfl) ?_
    refine va_get (D := D) (ci := 3) (v := .ref (P 1)) (C := RX3) (T := TX3) (N := 2) hx hb hts inT_X3 hown hK.1 hP 0 rfl rfl 0 (by decide) (hts _ wfl_RX3_9) (fun _ h9 => h9) rfl dX3_add_14 ?_
    refine lv_aload_n hx hb dX3_add_17 rfl (lv_at hl 0 rfl) ?_
    refine va_get (D := D) (ci := 3) (v := .int (pw 1)) (C := RX3) (T := TX3) (N := 2) hx hb hts inT_X3 hown hK.1 hP 0 rfl rfl 1 (by decide) (hts _ wfl_RX3_15) (fun _ h9 => h9) rfl dX3_add_18 ?_
    refine lv_iload_n hx hb dX3_add_21 rfl (lv_at hl 1 rfl) ?_
    obtain ⟨z_2, hz_2⟩ : ∃ q, q = (upd (sg 0) ((pw 1)).toNatClampNeg (vp_nar .char a1)) := ⟨_, rfl⟩
    refine va_cast (D := D) (f := (sg 0)) hx hb hK.1 hP hD hS 1 0 rfl rfl (iw_in c_1) dX3_add_22 (fun H locs hP hD hS => ?_)
    have hP : va_P D vwCl (wPd cyC P (va_up sg 0 (upd (sg 0) ((pw 1)).toNatClampNeg (vp_nar .char a1))) pw) H := hP
    have hD : va_D A0 (wPd cyC P (va_up sg 0 (upd (sg 0) ((pw 1)).toNatClampNeg (vp_nar .char a1))) pw) := hD
    rw [← hz_2] at hP hD
    refine lv_aload_n hx hb dX3_add_23 rfl (lv_at hl 0 rfl) ?_
    refine lv_dup hx hb dX3_add_24 rfl ?_
    refine va_get (D := D) (ci := 3) (v := .int (pw 1)) (C := RX3) (T := TX3) (N := 2) hx hb hts inT_X3 hown hK.1 hP 0 rfl rfl 1 (by decide) (hts _ wfl_RX3_15) (fun _ h9 => h9) rfl dX3_add_25 ?_
    refine lv_iconst (v := 1) hx hb dX3_add_28 (by decide) ?_
    refine lv_iadd hx hb dX3_add_29 ?_
    refine va_put (D := D) (ci := 3) (v := .int ((pw 1) + (1 : Int32))) (ty := .int) (C := RX3) (T := TX3) (N := 2) hx hb hts inT_X3 tyX3 tyX3_ok nmX3 hown hK.1 hP hD hS 0 rfl rfl 1 (by decide) (hts _ wfl_RX3_15) (fun _ h9 => h9) rfl (by decide +kernel) (by rfl) rfl (Nat.le_of_ble_eq_true rfl) dX3_add_30 (fun H locs hP hD hS => ?_)
    have hP : va_P D vwCl (wPd cyC P (va_up sg 0 z_2) (va_up pw 1 ((pw 1) + (1 : Int32)))) H := hP
    have hD : va_D A0 (wPd cyC P (va_up sg 0 z_2) (va_up pw 1 ((pw 1) + (1 : Int32)))) := hD
    have e9 : (pX3_add sg pw a1) = ((va_up sg 0 z_2), (va_up pw 1 ((pw 1) + (1 : Int32)))) := by simp only [pX3_add, ← hz_2, if_neg c_1]
    have e9_0 : (pX3_add sg pw a1).1 = (va_up sg 0 z_2) := by rw [e9]
    have e9_1 : (pX3_add sg pw a1).2 = (va_up pw 1 ((pw 1) + (1 : Int32))) := by rw [e9]
    exact W.vret hx hb hr (fun t ht hW => ⟨⟨rfl, by rw [e9_0, e9_1, ht]; exact hP⟩, hS.F ht⟩) hS.2.2 dX3_add_33
theorem bV_X3_add : BV RX3 yX3_add cX3_add 2 none 1 := ⟨wcd_X3_add, wim_X3_add, wse_X3_add, win_RX3, by decide +kernel⟩
def pX3_signAt (sg : (Nat → Nat → Int32)) (pw : (Nat → Int32)) (a1 : Int32) : Int32 := (if (pX6_isWithin a1 0 59) = 0 then 32 else (if (pw 1) ≤ a1 then 32 else ((sg 0) (a1).toNatClampNeg)))
set_option maxHeartbeats 4000000 in
set_option maxRecDepth 100000 in
theorem kX3_signAt (l : Launch) (D : va_G) (cyC cyI cyO : ClassId) (P : Nat → Nat) (sg : (Nat → Nat → Int32)) (pw : (Nat → Int32)) (a1 : Int32) (hch : CH sg) : RO l yX3_signAt (Ty yX3_signAt cX3_signAt 2 (some .char)) ({ frames := 1, cells := 0, slots := 0, locals := 22 } : Room) D cyC cyI cyO (wPd cyC P sg pw) [.ref (P 0), .int a1] (pX3_signAt sg pw a1) := by
  refine Met.ofW (cc := cX3_signAt) (maxL := 2) (ret := (some .char)) (by decide) rfl ?_
  intro p e s m args below meth cd s₁ B hml hv
  obtain ⟨rfl, hP, hK⟩ := hv
  have hx := B.exec
  have hb := B.bytes
  have hr := B.returns
  have hts : ∀ w ∈ TB, w.before ([.ref (P 0), .int a1] : List Value).toArray s = true := fun w h => atoms_spec (ws := (Ty yX3_signAt cX3_signAt 2 (some .char))) B.pre w (List.mem_cons_of_mem _ h)
  have hown : s.vm.findClass RX3 = some m.cls := findClass_of_methodNamed B.named
  have hlocks := B.notSynchronized
  have hl := lv_entry ([.ref (P 0), .int a1]) (n := 2) (Nat.le_of_ble_eq_true rfl)
  rw [lg_entry_eq]
  generalize (lg_sl ([.ref (P 0), .int a1]) ++ List.replicate (2 - (lg_sl ([.ref (P 0), .int a1])).length) Slot.unset).toArray = ls at hl ⊢
  have hl : lv_has ls 2 [(0, .ref (P 0)), (1, .int a1)] := hl
  refine lv_iload_n hx hb dX3_signAt_0 rfl (lv_at hl 1 rfl) ?_
  refine lv_iconst (v := 0) hx hb dX3_signAt_1 (by decide) ?_
  refine lv_bipush (v := 59) hx hb dX3_signAt_2 (by decide) ?_
  refine rN (As := [.int a1, .int 0, .int 59]) (rest := []) hx hb hml hown hts hl.1 (kX6_isWithin l D cyC cyI cyO a1 0 59) bS_X6_isWithin  hK.2.2.2.2.1 ⟨rfl, rfl⟩ ⟨Nat.le_of_ble_eq_true rfl, Nat.le_of_ble_eq_true rfl, Nat.zero_le _, Nat.zero_le _⟩ [] rfl hP hK rfl rfl (Nat.le_of_ble_eq_true rfl) dX3_signAt_4 ?_
  refine lv_if_eq (tgt := 27) hx hb dX3_signAt_7 (by decide) (fun c_1 => ?_) (fun c_1 => ?_)
  · refine lv_bipush (v := 32) hx hb dX3_signAt_27 (by decide) ?_
    have e9 : 32 = (pX3_signAt sg pw a1) := by simp only [pX3_signAt, if_pos c_1]
    exact W.zret (ty := .char) (v := 32) hx hb hr (by rfl) (fun t ht hW => ⟨_, rfl, e9, ht⟩) (fun _ h => absurd h List.not_mem_nil) dX3_signAt_29
  · refine lv_iload_n hx hb dX3_signAt_10 rfl (lv_at hl 1 rfl) ?_
    refine lv_aload_n hx hb dX3_signAt_11 rfl (lv_at hl 0 rfl) ?_
    refine va_get (D := D) (ci := 3) (v := .int (pw 1)) (C := RX3) (T := TX3) (N := 2) hx hb hts inT_X3 hown hK.1 hP 0 rfl rfl 1 (by decide) (hts _ wfl_RX3_15) (fun _ h9 => h9) rfl dX3_signAt_12 ?_
    refine lv_icmp_ge (tgt := 27) hx hb dX3_signAt_15 (by decide) (fun c_2 => ?_) (fun c_2 => ?_)
    · refine lv_bipush (v := 32) hx hb dX3_signAt_27 (by decide) ?_
      have e9 : 32 = (pX3_signAt sg pw a1) := by simp only [pX3_signAt, if_neg c_1, if_pos c_2]
      exact W.zret (ty := .char) (v := 32) hx hb hr (by rfl) (fun t ht hW => ⟨_, rfl, e9, ht⟩) (fun _ h => absurd h List.not_mem_nil) dX3_signAt_29
    · refine lv_aload_n hx hb dX3_signAt_18 rfl (lv_at hl 0 rfl) ?_
      refine va_get (D := D) (ci := 3) (v := .ref (P 1)) (C := RX3) (T := TX3) (N := 2) hx hb hts inT_X3 hown hK.1 hP 0 rfl rfl 0 (by decide) (hts _ wfl_RX3_9) (fun _ h9 => h9) rfl dX3_signAt_19 ?_
      refine lv_iload_n hx hb dX3_signAt_22 rfl (lv_at hl 1 rfl) ?_
      refine va_cald (D := D) (f := (sg 0)) hx hb hK.1 hP 1 0 rfl rfl (iw_in c_1) dX3_signAt_23 ?_
      refine lv_goto (tgt := 29) hx hb dX3_signAt_24 (by decide) ?_
      have e9 : ((sg 0) (a1).toNatClampNeg) = (pX3_signAt sg pw a1) := by simp only [pX3_signAt, if_neg c_1, if_neg c_2]
      exact W.zret (ty := .char) (v := ((sg 0) (a1).toNatClampNeg)) hx hb hr (chn (iw_ch hch c_1)) (fun t ht hW => ⟨_, rfl, e9, ht⟩) (fun _ h => absurd h List.not_mem_nil) dX3_signAt_29
theorem bV_X3_signAt : BV RX3 yX3_signAt cX3_signAt 2 (some .char) 1 := ⟨wcd_X3_signAt, wim_X3_signAt, wse_X3_signAt, win_RX3, by decide +kernel⟩
theorem sa_ch {sg : Nat → Nat → Int32} {pw : Nat → Int32} {x : Int32} (hc : CH sg) : CHR (pX3_signAt sg pw x) := by
  unfold pX3_signAt
  split
  · exact ⟨32, by decide, rfl⟩
  · split
    · exact ⟨32, by decide, rfl⟩
    · rename_i h _
      exact iw_ch hc h
def pX2_digitAt (rd : (Nat → Int32)) (sg : (Nat → Nat → Int32)) (pw : (Nat → Int32)) (a1 : Int32) : Int32 := (if (pX3_signAt sg pw a1) < 48 then (-1) else (if 57 < (pX3_signAt sg pw a1) then (-1) else ((pX3_signAt sg pw a1) - (48 : Int32))))
set_option maxHeartbeats 4000000 in
set_option maxRecDepth 100000 in
theorem kX2_digitAt (l : Launch) (D : va_G) (cyC cyI cyO : ClassId) (R : Nat → Nat) (P : Nat → Nat) (rd : (Nat → Int32)) (sg : (Nat → Nat → Int32)) (pw : (Nat → Int32)) (a1 : Int32) (hch : CH sg) : RO l yX2_digitAt (Ty yX2_digitAt cX2_digitAt 3 (some .int)) ({ frames := 2, cells := 0, slots := 0, locals := 43 } : Room) D cyC cyI cyO (wRd R P rd ++ (wPd cyC P sg pw)) [.ref (R 0), .int a1] (pX2_digitAt rd sg pw a1) := by
  refine Met.ofW (cc := cX2_digitAt) (maxL := 3) (ret := (some .int)) (by decide) rfl ?_
  intro p e s m args below meth cd s₁ B hml hv
  obtain ⟨rfl, hP, hK⟩ := hv
  have hx := B.exec
  have hb := B.bytes
  have hr := B.returns
  have hts : ∀ w ∈ TB, w.before ([.ref (R 0), .int a1] : List Value).toArray s = true := fun w h => atoms_spec (ws := (Ty yX2_digitAt cX2_digitAt 3 (some .int))) B.pre w (List.mem_cons_of_mem _ h)
  have hown : s.vm.findClass RX2 = some m.cls := findClass_of_methodNamed B.named
  have hlocks := B.notSynchronized
  have hl := lv_entry ([.ref (R 0), .int a1]) (n := 3) (Nat.le_of_ble_eq_true rfl)
  rw [lg_entry_eq]
  generalize (lg_sl ([.ref (R 0), .int a1]) ++ List.replicate (3 - (lg_sl ([.ref (R 0), .int a1])).length) Slot.unset).toArray = ls at hl ⊢
  have hl : lv_has ls 3 [(0, .ref (R 0)), (1, .int a1)] := hl
  refine lv_aload_n hx hb dX2_digitAt_0 rfl (lv_at hl 0 rfl) ?_
  refine va_get (D := D) (ci := 2) (v := .ref (P 0)) (C := RX2) (T := TX2) (N := 6) hx hb hts inT_X2 hown hK.1 hP 0 rfl rfl 0 (by decide) (hts _ wfl_RX2_9) (fun _ h9 => h9) rfl dX2_digitAt_1 ?_
  refine lv_iload_n hx hb dX2_digitAt_4 rfl (lv_at hl 1 rfl) ?_
  refine rV (As := [.int a1]) (rest := []) hx hb hml hown hts hl.1 (kX3_signAt l D cyC cyI cyO P sg pw a1 hch) bV_X3_signAt  wml_RX2_38 ⟨rfl, rfl⟩ ⟨Nat.le_of_ble_eq_true rfl, Nat.le_of_ble_eq_true rfl, Nat.zero_le _, Nat.zero_le _⟩ [1, 2] rfl hP hK 1 rfl rfl rfl rfl rfl (Nat.le_of_ble_eq_true rfl) dX2_digitAt_5 ?_
  refine lv_istore_n (lv' := [(2, .int (pX3_signAt sg pw a1)), (0, .ref (R 0)), (1, .int a1)]) hx hb dX2_digitAt_8 rfl hl (by decide) rfl (fun ls hl => ?_)
  refine lv_iload_n hx hb dX2_digitAt_9 rfl (lv_at hl 0 rfl) ?_
  refine lv_bipush (v := 48) hx hb dX2_digitAt_10 (by decide) ?_
  refine lv_icmp_lt (tgt := 28) hx hb dX2_digitAt_12 (by decide) (fun c_1 => ?_) (fun c_1 => ?_)
  · refine lv_iconst (v := (-1)) hx hb dX2_digitAt_28 (by decide) ?_
    have e9 : (-1) = (pX2_digitAt rd sg pw a1) := by simp only [pX2_digitAt, if_pos c_1]
    exact W.iret (v := (-1)) hx hb hr (fun t ht hW => ⟨_, rfl, e9, ht⟩) (fun _ h => absurd h List.not_mem_nil) dX2_digitAt_29
  · refine lv_iload_n hx hb dX2_digitAt_15 rfl (lv_at hl 0 rfl) ?_
    refine lv_bipush (v := 57) hx hb dX2_digitAt_16 (by decide) ?_
    refine lv_icmp_gt (tgt := 28) hx hb dX2_digitAt_18 (by decide) (fun c_2 => ?_) (fun c_2 => ?_)
    · refine lv_iconst (v := (-1)) hx hb dX2_digitAt_28 (by decide) ?_
      have e9 : (-1) = (pX2_digitAt rd sg pw a1) := by simp only [pX2_digitAt, if_neg c_1, if_pos c_2]
      exact W.iret (v := (-1)) hx hb hr (fun t ht hW => ⟨_, rfl, e9, ht⟩) (fun _ h => absurd h List.not_mem_nil) dX2_digitAt_29
    · refine lv_iload_n hx hb dX2_digitAt_21 rfl (lv_at hl 0 rfl) ?_
      refine lv_bipush (v := 48) hx hb dX2_digitAt_22 (by decide) ?_
      refine lv_isub hx hb dX2_digitAt_24 ?_
      refine lv_goto (tgt := 29) hx hb dX2_digitAt_25 (by decide) ?_
      have e9 : ((pX3_signAt sg pw a1) - (48 : Int32)) = (pX2_digitAt rd sg pw a1) := by simp only [pX2_digitAt, if_neg c_1, if_neg c_2]
      exact W.iret (v := ((pX3_signAt sg pw a1) - (48 : Int32))) hx hb hr (fun t ht hW => ⟨_, rfl, e9, ht⟩) (fun _ h => absurd h List.not_mem_nil) dX2_digitAt_29
theorem bV_X2_digitAt : BV RX2 yX2_digitAt cX2_digitAt 3 (some .int) 1 := ⟨wcd_X2_digitAt, wim_X2_digitAt, wse_X2_digitAt, win_RX2, by decide +kernel⟩
def pX2_isAllowed (a1 : Int32) (a2 : Int32) : Int32 := (if a2 = 0 then (pX6_isRoof a1) else (pX4_isGangway a1))
set_option maxHeartbeats 4000000 in
set_option maxRecDepth 100000 in
theorem kX2_isAllowed (l : Launch) (D : va_G) (cyC cyI cyO : ClassId) (a1 : Int32) (a2 : Int32) : RO l yX2_isAllowed (Ty yX2_isAllowed cX2_isAllowed 2 (some .boolean)) ({ frames := 2, cells := 0, slots := 0, locals := 42 } : Room) D cyC cyI cyO [] [.int a1, .int a2] (pX2_isAllowed a1 a2) := by
  refine Met.ofW (cc := cX2_isAllowed) (maxL := 2) (ret := (some .boolean)) (by decide) rfl ?_
  intro p e s m args below meth cd s₁ B hml hv
  obtain ⟨rfl, hP, hK⟩ := hv
  have hx := B.exec
  have hb := B.bytes
  have hr := B.returns
  have hts : ∀ w ∈ TB, w.before ([.int a1, .int a2] : List Value).toArray s = true := fun w h => atoms_spec (ws := (Ty yX2_isAllowed cX2_isAllowed 2 (some .boolean))) B.pre w (List.mem_cons_of_mem _ h)
  have hown : s.vm.findClass RX2 = some m.cls := findClass_of_methodNamed B.named
  have hlocks := B.notSynchronized
  have hl := lv_entry ([.int a1, .int a2]) (n := 2) (Nat.le_of_ble_eq_true rfl)
  rw [lg_entry_eq]
  generalize (lg_sl ([.int a1, .int a2]) ++ List.replicate (2 - (lg_sl ([.int a1, .int a2])).length) Slot.unset).toArray = ls at hl ⊢
  have hl : lv_has ls 2 [(0, .int a1), (1, .int a2)] := hl
  refine lv_iload_n hx hb dX2_isAllowed_0 rfl (lv_at hl 1 rfl) ?_
  refine lv_if_eq (tgt := 11) hx hb dX2_isAllowed_1 (by decide) (fun c_1 => ?_) (fun c_1 => ?_)
  · refine lv_iload_n hx hb dX2_isAllowed_11 rfl (lv_at hl 0 rfl) ?_
    refine rN (As := [.int a1]) (rest := []) hx hb hml hown hts hl.1 (kX6_isRoof l D cyC cyI cyO a1) bS_X6_isRoof  hK.2.2.2.2.2.2.1 ⟨rfl, rfl⟩ ⟨Nat.le_of_ble_eq_true rfl, Nat.le_of_ble_eq_true rfl, Nat.zero_le _, Nat.zero_le _⟩ [] rfl hP hK rfl rfl (Nat.le_of_ble_eq_true rfl) dX2_isAllowed_12 ?_
    have e9 : (pX6_isRoof a1) = (pX2_isAllowed a1 a2) := by simp only [pX2_isAllowed, if_pos c_1]
    exact W.zret (ty := .boolean) (v := (pX6_isRoof a1)) hx hb hr (nz (z_X6_isRoof a1)) (fun t ht hW => ⟨_, rfl, e9, ht⟩) (fun _ h => absurd h List.not_mem_nil) dX2_isAllowed_15
  · refine lv_iload_n hx hb dX2_isAllowed_4 rfl (lv_at hl 0 rfl) ?_
    refine rS (As := [.int a1]) (rest := []) hx hb hml hown hts hl.1 (kX4_isGangway l D cyC cyI cyO a1) bS_X4_isGangway  wml_RX2_71 ⟨rfl, rfl⟩ ⟨Nat.le_of_ble_eq_true rfl, Nat.le_of_ble_eq_true rfl, Nat.zero_le _, Nat.zero_le _⟩ [] rfl hP hK rfl rfl (Nat.le_of_ble_eq_true rfl) dX2_isAllowed_5 ?_
    refine lv_goto (tgt := 15) hx hb dX2_isAllowed_8 (by decide) ?_
    have e9 : (pX4_isGangway a1) = (pX2_isAllowed a1 a2) := by simp only [pX2_isAllowed, if_neg c_1]
    exact W.zret (ty := .boolean) (v := (pX4_isGangway a1)) hx hb hr (nz (z_X4_isGangway a1)) (fun t ht hW => ⟨_, rfl, e9, ht⟩) (fun _ h => absurd h List.not_mem_nil) dX2_isAllowed_15
theorem z_X2_isAllowed (a1 : Int32) (a2 : Int32) : (pX2_isAllowed a1 a2) = 0 ∨ (pX2_isAllowed a1 a2) = 1 := by
  unfold pX2_isAllowed
  (repeat' split) <;> first | with_reducible exact z_X4_isGangway _ | with_reducible exact z_X6_isRoof _ | with_reducible exact Or.inl rfl | with_reducible exact Or.inr rfl
theorem bS_X2_isAllowed : BS yX2_isAllowed cX2_isAllowed 2 (some .boolean) 2 := ⟨wcd_X2_isAllowed, wst_X2_isAllowed, win_RX2, by decide +kernel⟩
def pX2_rewind (rd : (Nat → Int32)) (sg : (Nat → Nat → Int32)) (pw : (Nat → Int32)) : (Nat → Int32) := (va_up rd 1 0)
set_option maxHeartbeats 4000000 in
set_option maxRecDepth 100000 in
theorem kX2_rewind (l : Launch) (D : va_G) (cyC cyI cyO : ClassId) (R : Nat → Nat) (P : Nat → Nat) (rd : (Nat → Int32)) (sg : (Nat → Nat → Int32)) (pw : (Nat → Int32)) : MU l yX2_rewind (Ty yX2_rewind cX2_rewind 1 none) ({ frames := 0, cells := 0, slots := 0, locals := 0 } : Room) D cyC cyI cyO (wRd R P rd ++ (wPd cyC P sg pw)) [.ref (R 0)] none (wRd R P (pX2_rewind rd sg pw) ++ (wPd cyC P sg pw)) := by
  intro sz
  refine Met.ofW (cc := cX2_rewind) (maxL := 1) (ret := none) (by decide) rfl ?_
  intro p e s m args below meth cd s₁ B hml hv
  obtain ⟨rfl, hsz, hP, hK, hD0⟩ := hv
  have hx := B.exec
  have hb := B.bytes
  have hr := B.returns
  have hts : ∀ w ∈ TB, w.before ([.ref (R 0)] : List Value).toArray s = true := fun w h => atoms_spec (ws := (Ty yX2_rewind cX2_rewind 1 none)) B.pre w (List.mem_cons_of_mem _ h)
  have hown : s.vm.findClass RX2 = some m.cls := findClass_of_methodNamed B.named
  have hlocks := B.notSynchronized
  subst hsz
  have hD := hD0.self (sz := s.heap.size)
  have hA : ∀ q : Nat, s.heap.size ≤ q → (va_A (wRd R P rd ++ (wPd cyC P sg pw)) s.heap.size) q := fun q h => Or.inr h
  generalize hAe : va_A (wRd R P rd ++ (wPd cyC P sg pw)) s.heap.size = A0 at hD hA ⊢
  have hS : va_S A0 s.heap s.heap [] := va_S.rf
  have hl := lv_entry ([.ref (R 0)]) (n := 1) (Nat.le_of_ble_eq_true rfl)
  rw [lg_entry_eq]
  generalize (lg_sl ([.ref (R 0)]) ++ List.replicate (1 - (lg_sl ([.ref (R 0)])).length) Slot.unset).toArray = ls at hl ⊢
  have hl : lv_has ls 1 [(0, .ref (R 0))] := hl
  refine lv_aload_n hx hb dX2_rewind_0 rfl (lv_at hl 0 rfl) ?_
  refine lv_iconst (v := 0) hx hb dX2_rewind_1 (by decide) ?_
  refine va_put (D := D) (ci := 2) (v := .int 0) (ty := .int) (C := RX2) (T := TX2) (N := 6) hx hb hts inT_X2 tyX2 tyX2_ok nmX2 hown hK.1 hP hD hS 0 rfl rfl 1 (by decide) (hts _ wfl_RX2_15) (fun _ h9 => h9) rfl (by decide +kernel) (by rfl) rfl (Nat.le_of_ble_eq_true rfl) dX2_rewind_2 (fun H locs hP hD hS => ?_)
  have hP : va_P D vwCl (wRd R P (va_up rd 1 0) ++ (wPd cyC P sg pw)) H := hP
  have hD : va_D A0 (wRd R P (va_up rd 1 0) ++ (wPd cyC P sg pw)) := hD
  have e9 : (pX2_rewind rd sg pw) = (va_up rd 1 0) := rfl
  exact W.vret hx hb hr (fun t ht hW => ⟨⟨rfl, by rw [e9, ht]; exact hP⟩, hS.F ht⟩) hS.2.2 dX2_rewind_5
theorem bV_X2_rewind : BV RX2 yX2_rewind cX2_rewind 1 none 0 := ⟨wcd_X2_rewind, wim_X2_rewind, wse_X2_rewind, win_RX2, by decide +kernel⟩
def pX2_readSign (rd : (Nat → Int32)) (sg : (Nat → Nat → Int32)) (pw : (Nat → Int32)) (a1 : Int32) : Int32 × (Nat → Int32) := (if (pX3_signAt sg pw (rd 1)) = a1 then (1, (va_up rd 1 ((rd 1) + (1 : Int32)))) else (0, rd))
set_option maxHeartbeats 4000000 in
set_option maxRecDepth 100000 in
theorem kX2_readSign (l : Launch) (D : va_G) (cyC cyI cyO : ClassId) (R : Nat → Nat) (P : Nat → Nat) (rd : (Nat → Int32)) (sg : (Nat → Nat → Int32)) (pw : (Nat → Int32)) (a1 : Int32) (hch : CH sg) : MU l yX2_readSign (Ty yX2_readSign cX2_readSign 2 (some .boolean)) ({ frames := 2, cells := 0, slots := 0, locals := 43 } : Room) D cyC cyI cyO (wRd R P rd ++ (wPd cyC P sg pw)) [.ref (R 0), .int a1] (some (.int (pX2_readSign rd sg pw a1).1)) (wRd R P (pX2_readSign rd sg pw a1).2 ++ (wPd cyC P sg pw)) := by
  intro sz
  refine Met.ofW (cc := cX2_readSign) (maxL := 2) (ret := (some .boolean)) (by decide) rfl ?_
  intro p e s m args below meth cd s₁ B hml hv
  obtain ⟨rfl, hsz, hP, hK, hD0⟩ := hv
  have hx := B.exec
  have hb := B.bytes
  have hr := B.returns
  have hts : ∀ w ∈ TB, w.before ([.ref (R 0), .int a1] : List Value).toArray s = true := fun w h => atoms_spec (ws := (Ty yX2_readSign cX2_readSign 2 (some .boolean))) B.pre w (List.mem_cons_of_mem _ h)
  have hown : s.vm.findClass RX2 = some m.cls := findClass_of_methodNamed B.named
  have hlocks := B.notSynchronized
  subst hsz
  have hD := hD0.self (sz := s.heap.size)
  have hA : ∀ q : Nat, s.heap.size ≤ q → (va_A (wRd R P rd ++ (wPd cyC P sg pw)) s.heap.size) q := fun q h => Or.inr h
  generalize hAe : va_A (wRd R P rd ++ (wPd cyC P sg pw)) s.heap.size = A0 at hD hA ⊢
  have hS : va_S A0 s.heap s.heap [] := va_S.rf
  have hl := lv_entry ([.ref (R 0), .int a1]) (n := 2) (Nat.le_of_ble_eq_true rfl)
  rw [lg_entry_eq]
  generalize (lg_sl ([.ref (R 0), .int a1]) ++ List.replicate (2 - (lg_sl ([.ref (R 0), .int a1])).length) Slot.unset).toArray = ls at hl ⊢
  have hl : lv_has ls 2 [(0, .ref (R 0)), (1, .int a1)] := hl
  refine lv_aload_n hx hb dX2_readSign_0 rfl (lv_at hl 0 rfl) ?_
  refine va_get (D := D) (ci := 2) (v := .ref (P 0)) (C := RX2) (T := TX2) (N := 6) hx hb hts inT_X2 hown hK.1 hP 0 rfl rfl 0 (by decide) (hts _ wfl_RX2_9) (fun _ h9 => h9) rfl dX2_readSign_1 ?_
  refine lv_aload_n hx hb dX2_readSign_4 rfl (lv_at hl 0 rfl) ?_
  refine va_get (D := D) (ci := 2) (v := .int (rd 1)) (C := RX2) (T := TX2) (N := 6) hx hb hts inT_X2 hown hK.1 hP 0 rfl rfl 1 (by decide) (hts _ wfl_RX2_15) (fun _ h9 => h9) rfl dX2_readSign_5 ?_
  refine rV (As := [.int (rd 1)]) (rest := []) hx hb hml hown hts hl.1 (kX3_signAt l D cyC cyI cyO P sg pw (rd 1) hch) bV_X3_signAt  wml_RX2_38 ⟨rfl, rfl⟩ ⟨Nat.le_of_ble_eq_true rfl, Nat.le_of_ble_eq_true rfl, Nat.zero_le _, Nat.zero_le _⟩ [1, 2] rfl hP hK 1 rfl rfl rfl rfl rfl (Nat.le_of_ble_eq_true rfl) dX2_readSign_8 ?_
  refine lv_iload_n hx hb dX2_readSign_11 rfl (lv_at hl 1 rfl) ?_
  refine lv_icmp_eq (tgt := 17) hx hb dX2_readSign_12 (by decide) (fun c_1 => ?_) (fun c_1 => ?_)
  · refine lv_aload_n hx hb dX2_readSign_17 rfl (lv_at hl 0 rfl) ?_
    refine lv_dup hx hb dX2_readSign_18 rfl ?_
    refine va_get (D := D) (ci := 2) (v := .int (rd 1)) (C := RX2) (T := TX2) (N := 6) hx hb hts inT_X2 hown hK.1 hP 0 rfl rfl 1 (by decide) (hts _ wfl_RX2_15) (fun _ h9 => h9) rfl dX2_readSign_19 ?_
    refine lv_iconst (v := 1) hx hb dX2_readSign_22 (by decide) ?_
    refine lv_iadd hx hb dX2_readSign_23 ?_
    refine va_put (D := D) (ci := 2) (v := .int ((rd 1) + (1 : Int32))) (ty := .int) (C := RX2) (T := TX2) (N := 6) hx hb hts inT_X2 tyX2 tyX2_ok nmX2 hown hK.1 hP hD hS 0 rfl rfl 1 (by decide) (hts _ wfl_RX2_15) (fun _ h9 => h9) rfl (by decide +kernel) (by rfl) rfl (Nat.le_of_ble_eq_true rfl) dX2_readSign_24 (fun H locs hP hD hS => ?_)
    have hP : va_P D vwCl (wRd R P (va_up rd 1 ((rd 1) + (1 : Int32))) ++ (wPd cyC P sg pw)) H := hP
    have hD : va_D A0 (wRd R P (va_up rd 1 ((rd 1) + (1 : Int32))) ++ (wPd cyC P sg pw)) := hD
    refine lv_iconst (v := 1) hx hb dX2_readSign_27 (by decide) ?_
    have e9 : (pX2_readSign rd sg pw a1) = (1, (va_up rd 1 ((rd 1) + (1 : Int32)))) := by simp only [pX2_readSign, if_pos c_1]
    have e9_0 : (pX2_readSign rd sg pw a1).1 = 1 := by rw [e9]
    have e9_1 : (pX2_readSign rd sg pw a1).2 = (va_up rd 1 ((rd 1) + (1 : Int32))) := by rw [e9]
    exact W.zret (ty := .boolean) (v := 1) hx hb hr (by rfl) (fun t ht hW => ⟨⟨by rw [e9_0], by rw [e9_1, ht]; exact hP⟩, hS.F ht⟩) hS.2.2 dX2_readSign_28
  · refine lv_iconst (v := 0) hx hb dX2_readSign_15 (by decide) ?_
    have e9 : (pX2_readSign rd sg pw a1) = (0, rd) := by simp only [pX2_readSign, if_neg c_1]
    have e9_0 : (pX2_readSign rd sg pw a1).1 = 0 := by rw [e9]
    have e9_1 : (pX2_readSign rd sg pw a1).2 = rd := by rw [e9]
    exact W.zret (ty := .boolean) (v := 0) hx hb hr (by rfl) (fun t ht hW => ⟨⟨by rw [e9_0], by rw [e9_1, ht]; exact hP⟩, hS.F ht⟩) hS.2.2 dX2_readSign_16
theorem z_X2_readSign (rd : (Nat → Int32)) (sg : (Nat → Nat → Int32)) (pw : (Nat → Int32)) (a1 : Int32) : (pX2_readSign rd sg pw a1).1 = 0 ∨ (pX2_readSign rd sg pw a1).1 = 1 := by
  unfold pX2_readSign
  (repeat' split) <;> first | with_reducible exact Or.inl rfl | with_reducible exact Or.inr rfl
theorem bV_X2_readSign : BV RX2 yX2_readSign cX2_readSign 2 (some .boolean) 1 := ⟨wcd_X2_readSign, wim_X2_readSign, wse_X2_readSign, win_RX2, by decide +kernel⟩
def pX2_readOwner (rd : (Nat → Int32)) (sg : (Nat → Nat → Int32)) (pw : (Nat → Int32)) : Int32 × (Nat → Int32) := (if (pX6_isOwner (pX2_digitAt rd sg pw (rd 1))) = 0 then (0, (va_up rd 4 (pX2_digitAt rd sg pw (rd 1)))) else (1, (va_up (va_up rd 4 (pX2_digitAt rd sg pw (rd 1))) 1 ((rd 1) + (1 : Int32)))))
set_option maxHeartbeats 4000000 in
set_option maxRecDepth 100000 in
theorem kX2_readOwner (l : Launch) (D : va_G) (cyC cyI cyO : ClassId) (R : Nat → Nat) (P : Nat → Nat) (rd : (Nat → Int32)) (sg : (Nat → Nat → Int32)) (pw : (Nat → Int32)) (hch : CH sg) : MU l yX2_readOwner (Ty yX2_readOwner cX2_readOwner 1 (some .boolean)) ({ frames := 3, cells := 0, slots := 0, locals := 65 } : Room) D cyC cyI cyO (wRd R P rd ++ (wPd cyC P sg pw)) [.ref (R 0)] (some (.int (pX2_readOwner rd sg pw).1)) (wRd R P (pX2_readOwner rd sg pw).2 ++ (wPd cyC P sg pw)) := by
  intro sz
  refine Met.ofW (cc := cX2_readOwner) (maxL := 1) (ret := (some .boolean)) (by decide) rfl ?_
  intro p e s m args below meth cd s₁ B hml hv
  obtain ⟨rfl, hsz, hP, hK, hD0⟩ := hv
  have hx := B.exec
  have hb := B.bytes
  have hr := B.returns
  have hts : ∀ w ∈ TB, w.before ([.ref (R 0)] : List Value).toArray s = true := fun w h => atoms_spec (ws := (Ty yX2_readOwner cX2_readOwner 1 (some .boolean))) B.pre w (List.mem_cons_of_mem _ h)
  have hown : s.vm.findClass RX2 = some m.cls := findClass_of_methodNamed B.named
  have hlocks := B.notSynchronized
  subst hsz
  have hD := hD0.self (sz := s.heap.size)
  have hA : ∀ q : Nat, s.heap.size ≤ q → (va_A (wRd R P rd ++ (wPd cyC P sg pw)) s.heap.size) q := fun q h => Or.inr h
  generalize hAe : va_A (wRd R P rd ++ (wPd cyC P sg pw)) s.heap.size = A0 at hD hA ⊢
  have hS : va_S A0 s.heap s.heap [] := va_S.rf
  have hl := lv_entry ([.ref (R 0)]) (n := 1) (Nat.le_of_ble_eq_true rfl)
  rw [lg_entry_eq]
  generalize (lg_sl ([.ref (R 0)]) ++ List.replicate (1 - (lg_sl ([.ref (R 0)])).length) Slot.unset).toArray = ls at hl ⊢
  have hl : lv_has ls 1 [(0, .ref (R 0))] := hl
  refine lv_aload_n hx hb dX2_readOwner_0 rfl (lv_at hl 0 rfl) ?_
  refine lv_aload_n hx hb dX2_readOwner_1 rfl (lv_at hl 0 rfl) ?_
  refine lv_aload_n hx hb dX2_readOwner_2 rfl (lv_at hl 0 rfl) ?_
  refine va_get (D := D) (ci := 2) (v := .int (rd 1)) (C := RX2) (T := TX2) (N := 6) hx hb hts inT_X2 hown hK.1 hP 0 rfl rfl 1 (by decide) (hts _ wfl_RX2_15) (fun _ h9 => h9) rfl dX2_readOwner_3 ?_
  refine rV (As := [.int (rd 1)]) (rest := [.ref (R 0)]) hx hb hml hown hts hl.1 (kX2_digitAt l D cyC cyI cyO R P rd sg pw (rd 1) hch) bV_X2_digitAt  wml_RX2_53 ⟨rfl, rfl⟩ ⟨Nat.le_of_ble_eq_true rfl, Nat.le_of_ble_eq_true rfl, Nat.zero_le _, Nat.zero_le _⟩ [0, 1, 2] rfl hP hK 0 rfl rfl rfl rfl rfl (Nat.le_of_ble_eq_true rfl) dX2_readOwner_6 ?_
  refine va_put (D := D) (ci := 2) (v := .int (pX2_digitAt rd sg pw (rd 1))) (ty := .int) (C := RX2) (T := TX2) (N := 6) hx hb hts inT_X2 tyX2 tyX2_ok nmX2 hown hK.1 hP hD hS 0 rfl rfl 4 (by decide) (hts _ wfl_RX2_57) (fun _ h9 => h9) rfl (by decide +kernel) (by rfl) rfl (Nat.le_of_ble_eq_true rfl) dX2_readOwner_9 (fun H locs hP hD hS => ?_)
  have hP : va_P D vwCl (wRd R P (va_up rd 4 (pX2_digitAt rd sg pw (rd 1))) ++ (wPd cyC P sg pw)) H := hP
  have hD : va_D A0 (wRd R P (va_up rd 4 (pX2_digitAt rd sg pw (rd 1))) ++ (wPd cyC P sg pw)) := hD
  refine lv_aload_n hx hb dX2_readOwner_12 rfl (lv_at hl 0 rfl) ?_
  refine va_get (D := D) (ci := 2) (v := .int (pX2_digitAt rd sg pw (rd 1))) (C := RX2) (T := TX2) (N := 6) hx hb hts inT_X2 hown hK.1 hP 0 rfl rfl 4 (by decide) (hts _ wfl_RX2_57) (fun _ h9 => h9) rfl dX2_readOwner_13 ?_
  refine rN (As := [.int (pX2_digitAt rd sg pw (rd 1))]) (rest := []) hx hb hml hown hts hl.1 (kX6_isOwner l D cyC cyI cyO (pX2_digitAt rd sg pw (rd 1))) bS_X6_isOwner  hK.2.2.2.2.2.1 ⟨rfl, rfl⟩ ⟨Nat.le_of_ble_eq_true rfl, Nat.le_of_ble_eq_true rfl, Nat.zero_le _, Nat.zero_le _⟩ [] rfl hP hK rfl rfl (Nat.le_of_ble_eq_true rfl) dX2_readOwner_16 ?_
  refine lv_if_ne (tgt := 24) hx hb dX2_readOwner_19 (by decide) (fun c_1 => ?_) (fun c_1 => ?_)
  · refine lv_aload_n hx hb dX2_readOwner_24 rfl (lv_at hl 0 rfl) ?_
    refine lv_dup hx hb dX2_readOwner_25 rfl ?_
    refine va_get (D := D) (ci := 2) (v := .int (rd 1)) (C := RX2) (T := TX2) (N := 6) hx hb hts inT_X2 hown hK.1 hP 0 rfl rfl 1 (by decide) (hts _ wfl_RX2_15) (fun _ h9 => h9) rfl dX2_readOwner_26 ?_
    refine lv_iconst (v := 1) hx hb dX2_readOwner_29 (by decide) ?_
    refine lv_iadd hx hb dX2_readOwner_30 ?_
    refine va_put (D := D) (ci := 2) (v := .int ((rd 1) + (1 : Int32))) (ty := .int) (C := RX2) (T := TX2) (N := 6) hx hb hts inT_X2 tyX2 tyX2_ok nmX2 hown hK.1 hP hD hS 0 rfl rfl 1 (by decide) (hts _ wfl_RX2_15) (fun _ h9 => h9) rfl (by decide +kernel) (by rfl) rfl (Nat.le_of_ble_eq_true rfl) dX2_readOwner_31 (fun H locs hP hD hS => ?_)
    have hP : va_P D vwCl (wRd R P (va_up (va_up rd 4 (pX2_digitAt rd sg pw (rd 1))) 1 ((rd 1) + (1 : Int32))) ++ (wPd cyC P sg pw)) H := hP
    have hD : va_D A0 (wRd R P (va_up (va_up rd 4 (pX2_digitAt rd sg pw (rd 1))) 1 ((rd 1) + (1 : Int32))) ++ (wPd cyC P sg pw)) := hD
    refine lv_iconst (v := 1) hx hb dX2_readOwner_34 (by decide) ?_
    have e9 : (pX2_readOwner rd sg pw) = (1, (va_up (va_up rd 4 (pX2_digitAt rd sg pw (rd 1))) 1 ((rd 1) + (1 : Int32)))) := by simp only [pX2_readOwner, if_neg c_1]
    have e9_0 : (pX2_readOwner rd sg pw).1 = 1 := by rw [e9]
    have e9_1 : (pX2_readOwner rd sg pw).2 = (va_up (va_up rd 4 (pX2_digitAt rd sg pw (rd 1))) 1 ((rd 1) + (1 : Int32))) := by rw [e9]
    exact W.zret (ty := .boolean) (v := 1) hx hb hr (by rfl) (fun t ht hW => ⟨⟨by rw [e9_0], by rw [e9_1, ht]; exact hP⟩, hS.F ht⟩) hS.2.2 dX2_readOwner_35
  · refine lv_iconst (v := 0) hx hb dX2_readOwner_22 (by decide) ?_
    have e9 : (pX2_readOwner rd sg pw) = (0, (va_up rd 4 (pX2_digitAt rd sg pw (rd 1)))) := by simp only [pX2_readOwner, if_pos c_1]
    have e9_0 : (pX2_readOwner rd sg pw).1 = 0 := by rw [e9]
    have e9_1 : (pX2_readOwner rd sg pw).2 = (va_up rd 4 (pX2_digitAt rd sg pw (rd 1))) := by rw [e9]
    exact W.zret (ty := .boolean) (v := 0) hx hb hr (by rfl) (fun t ht hW => ⟨⟨by rw [e9_0], by rw [e9_1, ht]; exact hP⟩, hS.F ht⟩) hS.2.2 dX2_readOwner_23
theorem z_X2_readOwner (rd : (Nat → Int32)) (sg : (Nat → Nat → Int32)) (pw : (Nat → Int32)) : (pX2_readOwner rd sg pw).1 = 0 ∨ (pX2_readOwner rd sg pw).1 = 1 := by
  unfold pX2_readOwner
  (repeat' split) <;> first | with_reducible exact Or.inl rfl | with_reducible exact Or.inr rfl
theorem bV_X2_readOwner : BV RX2 yX2_readOwner cX2_readOwner 1 (some .boolean) 0 := ⟨wcd_X2_readOwner, wim_X2_readOwner, wse_X2_readOwner, win_RX2, by decide +kernel⟩
def pX2_readNumber (rd : (Nat → Int32)) (sg : (Nat → Nat → Int32)) (pw : (Nat → Int32)) (a1 : Int32) : Int32 × (Nat → Int32) := (if (pX2_isAllowed (pX2_digitAt rd sg pw (rd 1)) a1) = 0 then (0, rd) else (if (pX2_digitAt rd sg pw (rd 1)) = 0 then (1, (va_up (va_up rd 1 ((rd 1) + (1 : Int32))) 5 (pX2_digitAt rd sg pw (rd 1)))) else (if (pX2_digitAt (va_up (va_up rd 1 ((rd 1) + (1 : Int32))) 5 (pX2_digitAt rd sg pw (rd 1))) sg pw ((rd 1) + (1 : Int32))) = (-1) then (1, (va_up (va_up rd 1 ((rd 1) + (1 : Int32))) 5 (pX2_digitAt rd sg pw (rd 1)))) else (if (pX2_isAllowed (((10 : Int32) * (pX2_digitAt rd sg pw (rd 1))) + (pX2_digitAt (va_up (va_up rd 1 ((rd 1) + (1 : Int32))) 5 (pX2_digitAt rd sg pw (rd 1))) sg pw ((rd 1) + (1 : Int32)))) a1) = 0 then (1, (va_up (va_up rd 1 ((rd 1) + (1 : Int32))) 5 (pX2_digitAt rd sg pw (rd 1)))) else (1, (va_up (va_up rd 1 (((rd 1) + (1 : Int32)) + (1 : Int32))) 5 (((10 : Int32) * (pX2_digitAt rd sg pw (rd 1))) + (pX2_digitAt (va_up (va_up rd 1 ((rd 1) + (1 : Int32))) 5 (pX2_digitAt rd sg pw (rd 1))) sg pw ((rd 1) + (1 : Int32))))))))))
set_option maxHeartbeats 4000000 in
set_option maxRecDepth 100000 in
theorem kX2_readNumber (l : Launch) (D : va_G) (cyC cyI cyO : ClassId) (R : Nat → Nat) (P : Nat → Nat) (rd : (Nat → Int32)) (sg : (Nat → Nat → Int32)) (pw : (Nat → Int32)) (a1 : Int32) (hch : CH sg) : MU l yX2_readNumber (Ty yX2_readNumber cX2_readNumber 4 (some .boolean)) ({ frames := 3, cells := 0, slots := 0, locals := 65 } : Room) D cyC cyI cyO (wRd R P rd ++ (wPd cyC P sg pw)) [.ref (R 0), .int a1] (some (.int (pX2_readNumber rd sg pw a1).1)) (wRd R P (pX2_readNumber rd sg pw a1).2 ++ (wPd cyC P sg pw)) := by
  intro sz
  refine Met.ofW (cc := cX2_readNumber) (maxL := 4) (ret := (some .boolean)) (by decide) rfl ?_
  intro p e s m args below meth cd s₁ B hml hv
  obtain ⟨rfl, hsz, hP, hK, hD0⟩ := hv
  have hx := B.exec
  have hb := B.bytes
  have hr := B.returns
  have hts : ∀ w ∈ TB, w.before ([.ref (R 0), .int a1] : List Value).toArray s = true := fun w h => atoms_spec (ws := (Ty yX2_readNumber cX2_readNumber 4 (some .boolean))) B.pre w (List.mem_cons_of_mem _ h)
  have hown : s.vm.findClass RX2 = some m.cls := findClass_of_methodNamed B.named
  have hlocks := B.notSynchronized
  subst hsz
  have hD := hD0.self (sz := s.heap.size)
  have hA : ∀ q : Nat, s.heap.size ≤ q → (va_A (wRd R P rd ++ (wPd cyC P sg pw)) s.heap.size) q := fun q h => Or.inr h
  generalize hAe : va_A (wRd R P rd ++ (wPd cyC P sg pw)) s.heap.size = A0 at hD hA ⊢
  have hS : va_S A0 s.heap s.heap [] := va_S.rf
  have hl := lv_entry ([.ref (R 0), .int a1]) (n := 4) (Nat.le_of_ble_eq_true rfl)
  rw [lg_entry_eq]
  generalize (lg_sl ([.ref (R 0), .int a1]) ++ List.replicate (4 - (lg_sl ([.ref (R 0), .int a1])).length) Slot.unset).toArray = ls at hl ⊢
  have hl : lv_has ls 4 [(0, .ref (R 0)), (1, .int a1)] := hl
  refine lv_aload_n hx hb dX2_readNumber_0 rfl (lv_at hl 0 rfl) ?_
  refine lv_aload_n hx hb dX2_readNumber_1 rfl (lv_at hl 0 rfl) ?_
  refine va_get (D := D) (ci := 2) (v := .int (rd 1)) (C := RX2) (T := TX2) (N := 6) hx hb hts inT_X2 hown hK.1 hP 0 rfl rfl 1 (by decide) (hts _ wfl_RX2_15) (fun _ h9 => h9) rfl dX2_readNumber_2 ?_
  refine rV (As := [.int (rd 1)]) (rest := []) hx hb hml hown hts hl.1 (kX2_digitAt l D cyC cyI cyO R P rd sg pw (rd 1) hch) bV_X2_digitAt  wml_RX2_53 ⟨rfl, rfl⟩ ⟨Nat.le_of_ble_eq_true rfl, Nat.le_of_ble_eq_true rfl, Nat.zero_le _, Nat.zero_le _⟩ [0, 1, 2] rfl hP hK 0 rfl rfl rfl rfl rfl (Nat.le_of_ble_eq_true rfl) dX2_readNumber_5 ?_
  refine lv_istore_n (lv' := [(2, .int (pX2_digitAt rd sg pw (rd 1))), (0, .ref (R 0)), (1, .int a1)]) hx hb dX2_readNumber_8 rfl hl (by decide) rfl (fun ls hl => ?_)
  refine lv_iload_n hx hb dX2_readNumber_9 rfl (lv_at hl 0 rfl) ?_
  refine lv_iload_n hx hb dX2_readNumber_10 rfl (lv_at hl 2 rfl) ?_
  refine rS (As := [.int (pX2_digitAt rd sg pw (rd 1)), .int a1]) (rest := []) hx hb hml hown hts hl.1 (kX2_isAllowed l D cyC cyI cyO (pX2_digitAt rd sg pw (rd 1)) a1) bS_X2_isAllowed  wml_RX2_64 ⟨rfl, rfl⟩ ⟨Nat.le_of_ble_eq_true rfl, Nat.le_of_ble_eq_true rfl, Nat.zero_le _, Nat.zero_le _⟩ [] rfl hP hK rfl rfl (Nat.le_of_ble_eq_true rfl) dX2_readNumber_11 ?_
  refine lv_if_ne (tgt := 19) hx hb dX2_readNumber_14 (by decide) (fun c_1 => ?_) (fun c_1 => ?_)
  · refine lv_aload_n hx hb dX2_readNumber_19 rfl (lv_at hl 1 rfl) ?_
    refine lv_dup hx hb dX2_readNumber_20 rfl ?_
    refine va_get (D := D) (ci := 2) (v := .int (rd 1)) (C := RX2) (T := TX2) (N := 6) hx hb hts inT_X2 hown hK.1 hP 0 rfl rfl 1 (by decide) (hts _ wfl_RX2_15) (fun _ h9 => h9) rfl dX2_readNumber_21 ?_
    refine lv_iconst (v := 1) hx hb dX2_readNumber_24 (by decide) ?_
    refine lv_iadd hx hb dX2_readNumber_25 ?_
    refine va_put (D := D) (ci := 2) (v := .int ((rd 1) + (1 : Int32))) (ty := .int) (C := RX2) (T := TX2) (N := 6) hx hb hts inT_X2 tyX2 tyX2_ok nmX2 hown hK.1 hP hD hS 0 rfl rfl 1 (by decide) (hts _ wfl_RX2_15) (fun _ h9 => h9) rfl (by decide +kernel) (by rfl) rfl (Nat.le_of_ble_eq_true rfl) dX2_readNumber_26 (fun H locs hP hD hS => ?_)
    have hP : va_P D vwCl (wRd R P (va_up rd 1 ((rd 1) + (1 : Int32))) ++ (wPd cyC P sg pw)) H := hP
    have hD : va_D A0 (wRd R P (va_up rd 1 ((rd 1) + (1 : Int32))) ++ (wPd cyC P sg pw)) := hD
    refine lv_aload_n hx hb dX2_readNumber_29 rfl (lv_at hl 1 rfl) ?_
    refine lv_iload_n hx hb dX2_readNumber_30 rfl (lv_at hl 0 rfl) ?_
    refine va_put (D := D) (ci := 2) (v := .int (pX2_digitAt rd sg pw (rd 1))) (ty := .int) (C := RX2) (T := TX2) (N := 6) hx hb hts inT_X2 tyX2 tyX2_ok nmX2 hown hK.1 hP hD hS 0 rfl rfl 5 (by decide) (hts _ wfl_RX2_68) (fun _ h9 => h9) rfl (by decide +kernel) (by rfl) rfl (Nat.le_of_ble_eq_true rfl) dX2_readNumber_31 (fun H locs hP hD hS => ?_)
    have hP : va_P D vwCl (wRd R P (va_up (va_up rd 1 ((rd 1) + (1 : Int32))) 5 (pX2_digitAt rd sg pw (rd 1))) ++ (wPd cyC P sg pw)) H := hP
    have hD : va_D A0 (wRd R P (va_up (va_up rd 1 ((rd 1) + (1 : Int32))) 5 (pX2_digitAt rd sg pw (rd 1))) ++ (wPd cyC P sg pw)) := hD
    refine lv_aload_n hx hb dX2_readNumber_34 rfl (lv_at hl 1 rfl) ?_
    refine lv_aload_n hx hb dX2_readNumber_35 rfl (lv_at hl 1 rfl) ?_
    refine va_get (D := D) (ci := 2) (v := .int ((rd 1) + (1 : Int32))) (C := RX2) (T := TX2) (N := 6) hx hb hts inT_X2 hown hK.1 hP 0 rfl rfl 1 (by decide) (hts _ wfl_RX2_15) (fun _ h9 => h9) rfl dX2_readNumber_36 ?_
    refine rV (As := [.int ((rd 1) + (1 : Int32))]) (rest := []) hx hb hml hown hts hl.1 (kX2_digitAt l D cyC cyI cyO R P (va_up (va_up rd 1 ((rd 1) + (1 : Int32))) 5 (pX2_digitAt rd sg pw (rd 1))) sg pw ((rd 1) + (1 : Int32)) hch) bV_X2_digitAt  wml_RX2_53 ⟨rfl, rfl⟩ ⟨Nat.le_of_ble_eq_true rfl, Nat.le_of_ble_eq_true rfl, Nat.zero_le _, Nat.zero_le _⟩ [0, 1, 2] rfl hP hK 0 rfl rfl rfl rfl rfl (Nat.le_of_ble_eq_true rfl) dX2_readNumber_39 ?_
    refine lv_istore_n (lv' := [(3, .int (pX2_digitAt (va_up (va_up rd 1 ((rd 1) + (1 : Int32))) 5 (pX2_digitAt rd sg pw (rd 1))) sg pw ((rd 1) + (1 : Int32)))), (2, .int (pX2_digitAt rd sg pw (rd 1))), (0, .ref (R 0)), (1, .int a1)]) hx hb dX2_readNumber_42 rfl hl (by decide) rfl (fun ls hl => ?_)
    refine lv_iload_n hx hb dX2_readNumber_43 rfl (lv_at hl 1 rfl) ?_
    refine lv_if_eq (tgt := 85) hx hb dX2_readNumber_44 (by decide) (fun c_2 => ?_) (fun c_2 => ?_)
    · refine lv_iconst (v := 1) hx hb dX2_readNumber_85 (by decide) ?_
      have e9 : (pX2_readNumber rd sg pw a1) = (1, (va_up (va_up rd 1 ((rd 1) + (1 : Int32))) 5 (pX2_digitAt rd sg pw (rd 1)))) := by simp only [pX2_readNumber, if_neg c_1, if_pos c_2]
      have e9_0 : (pX2_readNumber rd sg pw a1).1 = 1 := by rw [e9]
      have e9_1 : (pX2_readNumber rd sg pw a1).2 = (va_up (va_up rd 1 ((rd 1) + (1 : Int32))) 5 (pX2_digitAt rd sg pw (rd 1))) := by rw [e9]
      exact W.zret (ty := .boolean) (v := 1) hx hb hr (by rfl) (fun t ht hW => ⟨⟨by rw [e9_0], by rw [e9_1, ht]; exact hP⟩, hS.F ht⟩) hS.2.2 dX2_readNumber_86
    · refine lv_iload_n hx hb dX2_readNumber_47 rfl (lv_at hl 0 rfl) ?_
      refine lv_iconst (v := (-1)) hx hb dX2_readNumber_48 (by decide) ?_
      refine lv_icmp_eq (tgt := 85) hx hb dX2_readNumber_49 (by decide) (fun c_3 => ?_) (fun c_3 => ?_)
      · refine lv_iconst (v := 1) hx hb dX2_readNumber_85 (by decide) ?_
        have e9 : (pX2_readNumber rd sg pw a1) = (1, (va_up (va_up rd 1 ((rd 1) + (1 : Int32))) 5 (pX2_digitAt rd sg pw (rd 1)))) := by simp only [pX2_readNumber, if_neg c_1, if_neg c_2, if_pos c_3]
        have e9_0 : (pX2_readNumber rd sg pw a1).1 = 1 := by rw [e9]
        have e9_1 : (pX2_readNumber rd sg pw a1).2 = (va_up (va_up rd 1 ((rd 1) + (1 : Int32))) 5 (pX2_digitAt rd sg pw (rd 1))) := by rw [e9]
        exact W.zret (ty := .boolean) (v := 1) hx hb hr (by rfl) (fun t ht hW => ⟨⟨by rw [e9_0], by rw [e9_1, ht]; exact hP⟩, hS.F ht⟩) hS.2.2 dX2_readNumber_86
      · refine lv_bipush (v := 10) hx hb dX2_readNumber_52 (by decide) ?_
        refine lv_iload_n hx hb dX2_readNumber_54 rfl (lv_at hl 1 rfl) ?_
        refine lv_imul hx hb dX2_readNumber_55 ?_
        refine lv_iload_n hx hb dX2_readNumber_56 rfl (lv_at hl 0 rfl) ?_
        refine lv_iadd hx hb dX2_readNumber_57 ?_
        refine lv_iload_n hx hb dX2_readNumber_58 rfl (lv_at hl 3 rfl) ?_
        refine rS (As := [.int (((10 : Int32) * (pX2_digitAt rd sg pw (rd 1))) + (pX2_digitAt (va_up (va_up rd 1 ((rd 1) + (1 : Int32))) 5 (pX2_digitAt rd sg pw (rd 1))) sg pw ((rd 1) + (1 : Int32)))), .int a1]) (rest := []) hx hb hml hown hts hl.1 (kX2_isAllowed l D cyC cyI cyO (((10 : Int32) * (pX2_digitAt rd sg pw (rd 1))) + (pX2_digitAt (va_up (va_up rd 1 ((rd 1) + (1 : Int32))) 5 (pX2_digitAt rd sg pw (rd 1))) sg pw ((rd 1) + (1 : Int32)))) a1) bS_X2_isAllowed  wml_RX2_64 ⟨rfl, rfl⟩ ⟨Nat.le_of_ble_eq_true rfl, Nat.le_of_ble_eq_true rfl, Nat.zero_le _, Nat.zero_le _⟩ [] rfl hP hK rfl rfl (Nat.le_of_ble_eq_true rfl) dX2_readNumber_59 ?_
        refine lv_if_eq (tgt := 85) hx hb dX2_readNumber_62 (by decide) (fun c_4 => ?_) (fun c_4 => ?_)
        · refine lv_iconst (v := 1) hx hb dX2_readNumber_85 (by decide) ?_
          have e9 : (pX2_readNumber rd sg pw a1) = (1, (va_up (va_up rd 1 ((rd 1) + (1 : Int32))) 5 (pX2_digitAt rd sg pw (rd 1)))) := by simp only [pX2_readNumber, if_neg c_1, if_neg c_2, if_neg c_3, if_pos c_4]
          have e9_0 : (pX2_readNumber rd sg pw a1).1 = 1 := by rw [e9]
          have e9_1 : (pX2_readNumber rd sg pw a1).2 = (va_up (va_up rd 1 ((rd 1) + (1 : Int32))) 5 (pX2_digitAt rd sg pw (rd 1))) := by rw [e9]
          exact W.zret (ty := .boolean) (v := 1) hx hb hr (by rfl) (fun t ht hW => ⟨⟨by rw [e9_0], by rw [e9_1, ht]; exact hP⟩, hS.F ht⟩) hS.2.2 dX2_readNumber_86
        · refine lv_aload_n hx hb dX2_readNumber_65 rfl (lv_at hl 2 rfl) ?_
          refine lv_dup hx hb dX2_readNumber_66 rfl ?_
          refine va_get (D := D) (ci := 2) (v := .int ((rd 1) + (1 : Int32))) (C := RX2) (T := TX2) (N := 6) hx hb hts inT_X2 hown hK.1 hP 0 rfl rfl 1 (by decide) (hts _ wfl_RX2_15) (fun _ h9 => h9) rfl dX2_readNumber_67 ?_
          refine lv_iconst (v := 1) hx hb dX2_readNumber_70 (by decide) ?_
          refine lv_iadd hx hb dX2_readNumber_71 ?_
          refine va_put (D := D) (ci := 2) (v := .int (((rd 1) + (1 : Int32)) + (1 : Int32))) (ty := .int) (C := RX2) (T := TX2) (N := 6) hx hb hts inT_X2 tyX2 tyX2_ok nmX2 hown hK.1 hP hD hS 0 rfl rfl 1 (by decide) (hts _ wfl_RX2_15) (fun _ h9 => h9) rfl (by decide +kernel) (by rfl) rfl (Nat.le_of_ble_eq_true rfl) dX2_readNumber_72 (fun H locs hP hD hS => ?_)
          have hP : va_P D vwCl (wRd R P (va_up (va_up rd 1 (((rd 1) + (1 : Int32)) + (1 : Int32))) 5 (pX2_digitAt rd sg pw (rd 1))) ++ (wPd cyC P sg pw)) H := hP
          have hD : va_D A0 (wRd R P (va_up (va_up rd 1 (((rd 1) + (1 : Int32)) + (1 : Int32))) 5 (pX2_digitAt rd sg pw (rd 1))) ++ (wPd cyC P sg pw)) := hD
          refine lv_aload_n hx hb dX2_readNumber_75 rfl (lv_at hl 2 rfl) ?_
          refine lv_bipush (v := 10) hx hb dX2_readNumber_76 (by decide) ?_
          refine lv_iload_n hx hb dX2_readNumber_78 rfl (lv_at hl 1 rfl) ?_
          refine lv_imul hx hb dX2_readNumber_79 ?_
          refine lv_iload_n hx hb dX2_readNumber_80 rfl (lv_at hl 0 rfl) ?_
          refine lv_iadd hx hb dX2_readNumber_81 ?_
          refine va_put (D := D) (ci := 2) (v := .int (((10 : Int32) * (pX2_digitAt rd sg pw (rd 1))) + (pX2_digitAt (va_up (va_up rd 1 ((rd 1) + (1 : Int32))) 5 (pX2_digitAt rd sg pw (rd 1))) sg pw ((rd 1) + (1 : Int32))))) (ty := .int) (C := RX2) (T := TX2) (N := 6) hx hb hts inT_X2 tyX2 tyX2_ok nmX2 hown hK.1 hP hD hS 0 rfl rfl 5 (by decide) (hts _ wfl_RX2_68) (fun _ h9 => h9) rfl (by decide +kernel) (by rfl) rfl (Nat.le_of_ble_eq_true rfl) dX2_readNumber_82 (fun H locs hP hD hS => ?_)
          have hP : va_P D vwCl (wRd R P (va_up (va_up rd 1 (((rd 1) + (1 : Int32)) + (1 : Int32))) 5 (((10 : Int32) * (pX2_digitAt rd sg pw (rd 1))) + (pX2_digitAt (va_up (va_up rd 1 ((rd 1) + (1 : Int32))) 5 (pX2_digitAt rd sg pw (rd 1))) sg pw ((rd 1) + (1 : Int32))))) ++ (wPd cyC P sg pw)) H := hP
          have hD : va_D A0 (wRd R P (va_up (va_up rd 1 (((rd 1) + (1 : Int32)) + (1 : Int32))) 5 (((10 : Int32) * (pX2_digitAt rd sg pw (rd 1))) + (pX2_digitAt (va_up (va_up rd 1 ((rd 1) + (1 : Int32))) 5 (pX2_digitAt rd sg pw (rd 1))) sg pw ((rd 1) + (1 : Int32))))) ++ (wPd cyC P sg pw)) := hD
          refine lv_iconst (v := 1) hx hb dX2_readNumber_85 (by decide) ?_
          have e9 : (pX2_readNumber rd sg pw a1) = (1, (va_up (va_up rd 1 (((rd 1) + (1 : Int32)) + (1 : Int32))) 5 (((10 : Int32) * (pX2_digitAt rd sg pw (rd 1))) + (pX2_digitAt (va_up (va_up rd 1 ((rd 1) + (1 : Int32))) 5 (pX2_digitAt rd sg pw (rd 1))) sg pw ((rd 1) + (1 : Int32)))))) := by simp only [pX2_readNumber, if_neg c_1, if_neg c_2, if_neg c_3, if_neg c_4]
          have e9_0 : (pX2_readNumber rd sg pw a1).1 = 1 := by rw [e9]
          have e9_1 : (pX2_readNumber rd sg pw a1).2 = (va_up (va_up rd 1 (((rd 1) + (1 : Int32)) + (1 : Int32))) 5 (((10 : Int32) * (pX2_digitAt rd sg pw (rd 1))) + (pX2_digitAt (va_up (va_up rd 1 ((rd 1) + (1 : Int32))) 5 (pX2_digitAt rd sg pw (rd 1))) sg pw ((rd 1) + (1 : Int32))))) := by rw [e9]
          exact W.zret (ty := .boolean) (v := 1) hx hb hr (by rfl) (fun t ht hW => ⟨⟨by rw [e9_0], by rw [e9_1, ht]; exact hP⟩, hS.F ht⟩) hS.2.2 dX2_readNumber_86
  · refine lv_iconst (v := 0) hx hb dX2_readNumber_17 (by decide) ?_
    have e9 : (pX2_readNumber rd sg pw a1) = (0, rd) := by simp only [pX2_readNumber, if_pos c_1]
    have e9_0 : (pX2_readNumber rd sg pw a1).1 = 0 := by rw [e9]
    have e9_1 : (pX2_readNumber rd sg pw a1).2 = rd := by rw [e9]
    exact W.zret (ty := .boolean) (v := 0) hx hb hr (by rfl) (fun t ht hW => ⟨⟨by rw [e9_0], by rw [e9_1, ht]; exact hP⟩, hS.F ht⟩) hS.2.2 dX2_readNumber_18
theorem z_X2_readNumber (rd : (Nat → Int32)) (sg : (Nat → Nat → Int32)) (pw : (Nat → Int32)) (a1 : Int32) : (pX2_readNumber rd sg pw a1).1 = 0 ∨ (pX2_readNumber rd sg pw a1).1 = 1 := by
  unfold pX2_readNumber
  (repeat' split) <;> first | with_reducible exact Or.inl rfl | with_reducible exact Or.inr rfl
theorem bV_X2_readNumber : BV RX2 yX2_readNumber cX2_readNumber 4 (some .boolean) 1 := ⟨wcd_X2_readNumber, wim_X2_readNumber, wse_X2_readNumber, win_RX2, by decide +kernel⟩
def pX2_readOrder (rd : (Nat → Int32)) (sg : (Nat → Nat → Int32)) (pw : (Nat → Int32)) : Int32 × (Nat → Int32) := (if (pX3_signAt sg pw (rd 1)) = 99 then ((pX2_readNumber (va_up (va_up (va_up rd 2 (rd 1)) 3 (pX3_signAt sg pw (rd 1))) 1 ((rd 1) + (1 : Int32))) sg pw 0).1, (pX2_readNumber (va_up (va_up (va_up rd 2 (rd 1)) 3 (pX3_signAt sg pw (rd 1))) 1 ((rd 1) + (1 : Int32))) sg pw 0).2) else (if (pX3_signAt sg pw (rd 1)) = 100 then (1, (va_up (va_up (va_up rd 2 (rd 1)) 3 (pX3_signAt sg pw (rd 1))) 1 ((rd 1) + (1 : Int32)))) else (if (pX3_signAt sg pw (rd 1)) = 104 then (if (pX2_readOwner (va_up (va_up (va_up rd 2 (rd 1)) 3 (pX3_signAt sg pw (rd 1))) 1 ((rd 1) + (1 : Int32))) sg pw).1 = 0 then (0, (pX2_readOwner (va_up (va_up (va_up rd 2 (rd 1)) 3 (pX3_signAt sg pw (rd 1))) 1 ((rd 1) + (1 : Int32))) sg pw).2) else (if (pX2_readSign (pX2_readOwner (va_up (va_up (va_up rd 2 (rd 1)) 3 (pX3_signAt sg pw (rd 1))) 1 ((rd 1) + (1 : Int32))) sg pw).2 sg pw 58).1 = 0 then (0, (pX2_readSign (pX2_readOwner (va_up (va_up (va_up rd 2 (rd 1)) 3 (pX3_signAt sg pw (rd 1))) 1 ((rd 1) + (1 : Int32))) sg pw).2 sg pw 58).2) else (if (pX2_readNumber (pX2_readSign (pX2_readOwner (va_up (va_up (va_up rd 2 (rd 1)) 3 (pX3_signAt sg pw (rd 1))) 1 ((rd 1) + (1 : Int32))) sg pw).2 sg pw 58).2 sg pw 1).1 = 0 then (0, (pX2_readNumber (pX2_readSign (pX2_readOwner (va_up (va_up (va_up rd 2 (rd 1)) 3 (pX3_signAt sg pw (rd 1))) 1 ((rd 1) + (1 : Int32))) sg pw).2 sg pw 58).2 sg pw 1).2) else (1, (pX2_readNumber (pX2_readSign (pX2_readOwner (va_up (va_up (va_up rd 2 (rd 1)) 3 (pX3_signAt sg pw (rd 1))) 1 ((rd 1) + (1 : Int32))) sg pw).2 sg pw 58).2 sg pw 1).2)))) else (if (pX3_signAt sg pw (rd 1)) = 116 then (if (pX2_readOwner (va_up (va_up (va_up rd 2 (rd 1)) 3 (pX3_signAt sg pw (rd 1))) 1 ((rd 1) + (1 : Int32))) sg pw).1 = 0 then (0, (pX2_readOwner (va_up (va_up (va_up rd 2 (rd 1)) 3 (pX3_signAt sg pw (rd 1))) 1 ((rd 1) + (1 : Int32))) sg pw).2) else (if (pX2_readSign (pX2_readOwner (va_up (va_up (va_up rd 2 (rd 1)) 3 (pX3_signAt sg pw (rd 1))) 1 ((rd 1) + (1 : Int32))) sg pw).2 sg pw 58).1 = 0 then (0, (pX2_readSign (pX2_readOwner (va_up (va_up (va_up rd 2 (rd 1)) 3 (pX3_signAt sg pw (rd 1))) 1 ((rd 1) + (1 : Int32))) sg pw).2 sg pw 58).2) else (if (pX2_readNumber (pX2_readSign (pX2_readOwner (va_up (va_up (va_up rd 2 (rd 1)) 3 (pX3_signAt sg pw (rd 1))) 1 ((rd 1) + (1 : Int32))) sg pw).2 sg pw 58).2 sg pw 1).1 = 0 then (0, (pX2_readNumber (pX2_readSign (pX2_readOwner (va_up (va_up (va_up rd 2 (rd 1)) 3 (pX3_signAt sg pw (rd 1))) 1 ((rd 1) + (1 : Int32))) sg pw).2 sg pw 58).2 sg pw 1).2) else (1, (pX2_readNumber (pX2_readSign (pX2_readOwner (va_up (va_up (va_up rd 2 (rd 1)) 3 (pX3_signAt sg pw (rd 1))) 1 ((rd 1) + (1 : Int32))) sg pw).2 sg pw 58).2 sg pw 1).2)))) else (if (pX3_signAt sg pw (rd 1)) = 119 then (if (pX2_readOwner (va_up (va_up (va_up rd 2 (rd 1)) 3 (pX3_signAt sg pw (rd 1))) 1 ((rd 1) + (1 : Int32))) sg pw).1 = 0 then (0, (pX2_readOwner (va_up (va_up (va_up rd 2 (rd 1)) 3 (pX3_signAt sg pw (rd 1))) 1 ((rd 1) + (1 : Int32))) sg pw).2) else (if (pX2_readSign (pX2_readOwner (va_up (va_up (va_up rd 2 (rd 1)) 3 (pX3_signAt sg pw (rd 1))) 1 ((rd 1) + (1 : Int32))) sg pw).2 sg pw 58).1 = 0 then (0, (pX2_readSign (pX2_readOwner (va_up (va_up (va_up rd 2 (rd 1)) 3 (pX3_signAt sg pw (rd 1))) 1 ((rd 1) + (1 : Int32))) sg pw).2 sg pw 58).2) else (if (pX2_readNumber (pX2_readSign (pX2_readOwner (va_up (va_up (va_up rd 2 (rd 1)) 3 (pX3_signAt sg pw (rd 1))) 1 ((rd 1) + (1 : Int32))) sg pw).2 sg pw 58).2 sg pw 1).1 = 0 then (0, (pX2_readNumber (pX2_readSign (pX2_readOwner (va_up (va_up (va_up rd 2 (rd 1)) 3 (pX3_signAt sg pw (rd 1))) 1 ((rd 1) + (1 : Int32))) sg pw).2 sg pw 58).2 sg pw 1).2) else (1, (pX2_readNumber (pX2_readSign (pX2_readOwner (va_up (va_up (va_up rd 2 (rd 1)) 3 (pX3_signAt sg pw (rd 1))) 1 ((rd 1) + (1 : Int32))) sg pw).2 sg pw 58).2 sg pw 1).2)))) else (0, (va_up (va_up rd 2 (rd 1)) 3 (pX3_signAt sg pw (rd 1)))))))))
set_option maxHeartbeats 4000000 in
set_option maxRecDepth 100000 in
theorem kX2_readOrder (l : Launch) (D : va_G) (cyC cyI cyO : ClassId) (R : Nat → Nat) (P : Nat → Nat) (rd : (Nat → Int32)) (sg : (Nat → Nat → Int32)) (pw : (Nat → Int32)) (hch : CH sg) : MU l yX2_readOrder (Ty yX2_readOrder cX2_readOrder 1 (some .boolean)) ({ frames := 4, cells := 0, slots := 0, locals := 88 } : Room) D cyC cyI cyO (wRd R P rd ++ (wPd cyC P sg pw)) [.ref (R 0)] (some (.int (pX2_readOrder rd sg pw).1)) (wRd R P (pX2_readOrder rd sg pw).2 ++ (wPd cyC P sg pw)) := by
  intro sz
  refine Met.ofW (cc := cX2_readOrder) (maxL := 1) (ret := (some .boolean)) (by decide) rfl ?_
  intro p e s m args below meth cd s₁ B hml hv
  obtain ⟨rfl, hsz, hP, hK, hD0⟩ := hv
  have hx := B.exec
  have hb := B.bytes
  have hr := B.returns
  have hts : ∀ w ∈ TB, w.before ([.ref (R 0)] : List Value).toArray s = true := fun w h => atoms_spec (ws := (Ty yX2_readOrder cX2_readOrder 1 (some .boolean))) B.pre w (List.mem_cons_of_mem _ h)
  have hown : s.vm.findClass RX2 = some m.cls := findClass_of_methodNamed B.named
  have hlocks := B.notSynchronized
  subst hsz
  have hD := hD0.self (sz := s.heap.size)
  have hA : ∀ q : Nat, s.heap.size ≤ q → (va_A (wRd R P rd ++ (wPd cyC P sg pw)) s.heap.size) q := fun q h => Or.inr h
  generalize hAe : va_A (wRd R P rd ++ (wPd cyC P sg pw)) s.heap.size = A0 at hD hA ⊢
  have hS : va_S A0 s.heap s.heap [] := va_S.rf
  have hl := lv_entry ([.ref (R 0)]) (n := 1) (Nat.le_of_ble_eq_true rfl)
  rw [lg_entry_eq]
  generalize (lg_sl ([.ref (R 0)]) ++ List.replicate (1 - (lg_sl ([.ref (R 0)])).length) Slot.unset).toArray = ls at hl ⊢
  have hl : lv_has ls 1 [(0, .ref (R 0))] := hl
  refine lv_aload_n hx hb dX2_readOrder_0 rfl (lv_at hl 0 rfl) ?_
  refine lv_aload_n hx hb dX2_readOrder_1 rfl (lv_at hl 0 rfl) ?_
  refine va_get (D := D) (ci := 2) (v := .int (rd 1)) (C := RX2) (T := TX2) (N := 6) hx hb hts inT_X2 hown hK.1 hP 0 rfl rfl 1 (by decide) (hts _ wfl_RX2_15) (fun _ h9 => h9) rfl dX2_readOrder_2 ?_
  refine va_put (D := D) (ci := 2) (v := .int (rd 1)) (ty := .int) (C := RX2) (T := TX2) (N := 6) hx hb hts inT_X2 tyX2 tyX2_ok nmX2 hown hK.1 hP hD hS 0 rfl rfl 2 (by decide) (hts _ wfl_RX2_35) (fun _ h9 => h9) rfl (by decide +kernel) (by rfl) rfl (Nat.le_of_ble_eq_true rfl) dX2_readOrder_5 (fun H locs hP hD hS => ?_)
  have hP : va_P D vwCl (wRd R P (va_up rd 2 (rd 1)) ++ (wPd cyC P sg pw)) H := hP
  have hD : va_D A0 (wRd R P (va_up rd 2 (rd 1)) ++ (wPd cyC P sg pw)) := hD
  refine lv_aload_n hx hb dX2_readOrder_8 rfl (lv_at hl 0 rfl) ?_
  refine lv_aload_n hx hb dX2_readOrder_9 rfl (lv_at hl 0 rfl) ?_
  refine va_get (D := D) (ci := 2) (v := .ref (P 0)) (C := RX2) (T := TX2) (N := 6) hx hb hts inT_X2 hown hK.1 hP 0 rfl rfl 0 (by decide) (hts _ wfl_RX2_9) (fun _ h9 => h9) rfl dX2_readOrder_10 ?_
  refine lv_aload_n hx hb dX2_readOrder_13 rfl (lv_at hl 0 rfl) ?_
  refine va_get (D := D) (ci := 2) (v := .int (rd 1)) (C := RX2) (T := TX2) (N := 6) hx hb hts inT_X2 hown hK.1 hP 0 rfl rfl 1 (by decide) (hts _ wfl_RX2_15) (fun _ h9 => h9) rfl dX2_readOrder_14 ?_
  refine rV (As := [.int (rd 1)]) (rest := [.ref (R 0)]) hx hb hml hown hts hl.1 (kX3_signAt l D cyC cyI cyO P sg pw (rd 1) hch) bV_X3_signAt  wml_RX2_38 ⟨rfl, rfl⟩ ⟨Nat.le_of_ble_eq_true rfl, Nat.le_of_ble_eq_true rfl, Nat.zero_le _, Nat.zero_le _⟩ [1, 2] rfl hP hK 1 rfl rfl rfl rfl rfl (Nat.le_of_ble_eq_true rfl) dX2_readOrder_17 ?_
  refine va_put (D := D) (ci := 2) (v := .int (pX3_signAt sg pw (rd 1))) (ty := .char) (C := RX2) (T := TX2) (N := 6) hx hb hts inT_X2 tyX2 tyX2_ok nmX2 hown hK.1 hP hD hS 0 rfl rfl 3 (by decide) (hts _ wfl_RX2_42) (fun _ h9 => h9) rfl (by decide +kernel) (chn (sa_ch hch)) (chf (sa_ch hch)) (Nat.le_of_ble_eq_true rfl) dX2_readOrder_20 (fun H locs hP hD hS => ?_)
  have hP : va_P D vwCl (wRd R P (va_up (va_up rd 2 (rd 1)) 3 (pX3_signAt sg pw (rd 1))) ++ (wPd cyC P sg pw)) H := hP
  have hD : va_D A0 (wRd R P (va_up (va_up rd 2 (rd 1)) 3 (pX3_signAt sg pw (rd 1))) ++ (wPd cyC P sg pw)) := hD
  refine lv_aload_n hx hb dX2_readOrder_23 rfl (lv_at hl 0 rfl) ?_
  refine va_get (D := D) (ci := 2) (v := .int (pX3_signAt sg pw (rd 1))) (C := RX2) (T := TX2) (N := 6) hx hb hts inT_X2 hown hK.1 hP 0 rfl rfl 3 (by decide) (hts _ wfl_RX2_42) (fun _ h9 => h9) rfl dX2_readOrder_24 ?_
  by_cases c_1 : (pX3_signAt sg pw (rd 1)) = 99
  · refine lv_lookup (off := 89) (tgt := 116) hx hb dX2_readOrder_27 (by decide) (by rw [c_1]; rfl) (by decide) ?_
    refine lv_aload_n hx hb dX2_readOrder_116 rfl (lv_at hl 0 rfl) ?_
    refine lv_dup hx hb dX2_readOrder_117 rfl ?_
    refine va_get (D := D) (ci := 2) (v := .int (rd 1)) (C := RX2) (T := TX2) (N := 6) hx hb hts inT_X2 hown hK.1 hP 0 rfl rfl 1 (by decide) (hts _ wfl_RX2_15) (fun _ h9 => h9) rfl dX2_readOrder_118 ?_
    refine lv_iconst (v := 1) hx hb dX2_readOrder_121 (by decide) ?_
    refine lv_iadd hx hb dX2_readOrder_122 ?_
    refine va_put (D := D) (ci := 2) (v := .int ((rd 1) + (1 : Int32))) (ty := .int) (C := RX2) (T := TX2) (N := 6) hx hb hts inT_X2 tyX2 tyX2_ok nmX2 hown hK.1 hP hD hS 0 rfl rfl 1 (by decide) (hts _ wfl_RX2_15) (fun _ h9 => h9) rfl (by decide +kernel) (by rfl) rfl (Nat.le_of_ble_eq_true rfl) dX2_readOrder_123 (fun H locs hP hD hS => ?_)
    have hP : va_P D vwCl (wRd R P (va_up (va_up (va_up rd 2 (rd 1)) 3 (pX3_signAt sg pw (rd 1))) 1 ((rd 1) + (1 : Int32))) ++ (wPd cyC P sg pw)) H := hP
    have hD : va_D A0 (wRd R P (va_up (va_up (va_up rd 2 (rd 1)) 3 (pX3_signAt sg pw (rd 1))) 1 ((rd 1) + (1 : Int32))) ++ (wPd cyC P sg pw)) := hD
    refine lv_aload_n hx hb dX2_readOrder_126 rfl (lv_at hl 0 rfl) ?_
    refine lv_iconst (v := 0) hx hb dX2_readOrder_127 (by decide) ?_
    obtain ⟨z_6, hz_6⟩ : ∃ q, q = (pX2_readNumber (va_up (va_up (va_up rd 2 (rd 1)) 3 (pX3_signAt sg pw (rd 1))) 1 ((rd 1) + (1 : Int32))) sg pw 0) := ⟨_, rfl⟩
    refine mV (ws := (wRd R P (va_up (va_up (va_up rd 2 (rd 1)) 3 (pX3_signAt sg pw (rd 1))) 1 ((rd 1) + (1 : Int32))) ++ (wPd cyC P sg pw))) (ws' := (wRd R P z_6.2 ++ (wPd cyC P sg pw))) (As := [.int 0]) (rest := []) hx hb hml hown hts hl.1 (WS := (wRd R P (va_up (va_up (va_up rd 2 (rd 1)) 3 (pX3_signAt sg pw (rd 1))) 1 ((rd 1) + (1 : Int32))) ++ (wPd cyC P sg pw))) (WS' := (wRd R P z_6.2 ++ (wPd cyC P sg pw))) (ro := (some (.int z_6.1))) (by rw [hz_6]; exact kX2_readNumber l D cyC cyI cyO R P (va_up (va_up (va_up rd 2 (rd 1)) 3 (pX3_signAt sg pw (rd 1))) 1 ((rd 1) + (1 : Int32))) sg pw 0 hch) bV_X2_readNumber  wml_RX2_49 ⟨rfl, rfl⟩ ⟨Nat.le_of_ble_eq_true rfl, Nat.le_of_ble_eq_true rfl, Nat.zero_le _, Nat.zero_le _⟩ [0, 1, 2] rfl rfl rfl rfl rfl hP hD hS hA hK 0 rfl rfl rfl rfl rfl (Nat.le_of_ble_eq_true rfl) dX2_readOrder_128 (fun H locs hP hD hS => ?_)
    have e9 : (pX2_readOrder rd sg pw) = (z_6.1, z_6.2) := by simp only [pX2_readOrder, ← hz_6, if_pos c_1]
    have e9_0 : (pX2_readOrder rd sg pw).1 = z_6.1 := by rw [e9]
    have e9_1 : (pX2_readOrder rd sg pw).2 = z_6.2 := by rw [e9]
    exact W.zret (ty := .boolean) (v := z_6.1) hx hb hr (nz (by rw [hz_6]; exact z_X2_readNumber _ _ _ _)) (fun t ht hW => ⟨⟨by rw [e9_0], by rw [e9_1, ht]; exact hP⟩, hS.F ht⟩) hS.2.2 dX2_readOrder_131
  · by_cases c_2 : (pX3_signAt sg pw (rd 1)) = 100
    · refine lv_lookup (off := 105) (tgt := 132) hx hb dX2_readOrder_27 (by decide) (by rw [c_2]; rfl) (by decide) ?_
      refine lv_aload_n hx hb dX2_readOrder_132 rfl (lv_at hl 0 rfl) ?_
      refine lv_dup hx hb dX2_readOrder_133 rfl ?_
      refine va_get (D := D) (ci := 2) (v := .int (rd 1)) (C := RX2) (T := TX2) (N := 6) hx hb hts inT_X2 hown hK.1 hP 0 rfl rfl 1 (by decide) (hts _ wfl_RX2_15) (fun _ h9 => h9) rfl dX2_readOrder_134 ?_
      refine lv_iconst (v := 1) hx hb dX2_readOrder_137 (by decide) ?_
      refine lv_iadd hx hb dX2_readOrder_138 ?_
      refine va_put (D := D) (ci := 2) (v := .int ((rd 1) + (1 : Int32))) (ty := .int) (C := RX2) (T := TX2) (N := 6) hx hb hts inT_X2 tyX2 tyX2_ok nmX2 hown hK.1 hP hD hS 0 rfl rfl 1 (by decide) (hts _ wfl_RX2_15) (fun _ h9 => h9) rfl (by decide +kernel) (by rfl) rfl (Nat.le_of_ble_eq_true rfl) dX2_readOrder_139 (fun H locs hP hD hS => ?_)
      have hP : va_P D vwCl (wRd R P (va_up (va_up (va_up rd 2 (rd 1)) 3 (pX3_signAt sg pw (rd 1))) 1 ((rd 1) + (1 : Int32))) ++ (wPd cyC P sg pw)) H := hP
      have hD : va_D A0 (wRd R P (va_up (va_up (va_up rd 2 (rd 1)) 3 (pX3_signAt sg pw (rd 1))) 1 ((rd 1) + (1 : Int32))) ++ (wPd cyC P sg pw)) := hD
      refine lv_iconst (v := 1) hx hb dX2_readOrder_142 (by decide) ?_
      have e9 : (pX2_readOrder rd sg pw) = (1, (va_up (va_up (va_up rd 2 (rd 1)) 3 (pX3_signAt sg pw (rd 1))) 1 ((rd 1) + (1 : Int32)))) := by simp only [pX2_readOrder, if_neg c_1, if_pos c_2]
      have e9_0 : (pX2_readOrder rd sg pw).1 = 1 := by rw [e9]
      have e9_1 : (pX2_readOrder rd sg pw).2 = (va_up (va_up (va_up rd 2 (rd 1)) 3 (pX3_signAt sg pw (rd 1))) 1 ((rd 1) + (1 : Int32))) := by rw [e9]
      exact W.zret (ty := .boolean) (v := 1) hx hb hr (by rfl) (fun t ht hW => ⟨⟨by rw [e9_0], by rw [e9_1, ht]; exact hP⟩, hS.F ht⟩) hS.2.2 dX2_readOrder_143
    · by_cases c_3 : (pX3_signAt sg pw (rd 1)) = 104
      · refine lv_lookup (off := 49) (tgt := 76) hx hb dX2_readOrder_27 (by decide) (by rw [c_3]; rfl) (by decide) ?_
        refine lv_aload_n hx hb dX2_readOrder_76 rfl (lv_at hl 0 rfl) ?_
        refine lv_dup hx hb dX2_readOrder_77 rfl ?_
        refine va_get (D := D) (ci := 2) (v := .int (rd 1)) (C := RX2) (T := TX2) (N := 6) hx hb hts inT_X2 hown hK.1 hP 0 rfl rfl 1 (by decide) (hts _ wfl_RX2_15) (fun _ h9 => h9) rfl dX2_readOrder_78 ?_
        refine lv_iconst (v := 1) hx hb dX2_readOrder_81 (by decide) ?_
        refine lv_iadd hx hb dX2_readOrder_82 ?_
        refine va_put (D := D) (ci := 2) (v := .int ((rd 1) + (1 : Int32))) (ty := .int) (C := RX2) (T := TX2) (N := 6) hx hb hts inT_X2 tyX2 tyX2_ok nmX2 hown hK.1 hP hD hS 0 rfl rfl 1 (by decide) (hts _ wfl_RX2_15) (fun _ h9 => h9) rfl (by decide +kernel) (by rfl) rfl (Nat.le_of_ble_eq_true rfl) dX2_readOrder_83 (fun H locs hP hD hS => ?_)
        have hP : va_P D vwCl (wRd R P (va_up (va_up (va_up rd 2 (rd 1)) 3 (pX3_signAt sg pw (rd 1))) 1 ((rd 1) + (1 : Int32))) ++ (wPd cyC P sg pw)) H := hP
        have hD : va_D A0 (wRd R P (va_up (va_up (va_up rd 2 (rd 1)) 3 (pX3_signAt sg pw (rd 1))) 1 ((rd 1) + (1 : Int32))) ++ (wPd cyC P sg pw)) := hD
        refine lv_aload_n hx hb dX2_readOrder_86 rfl (lv_at hl 0 rfl) ?_
        obtain ⟨z_7, hz_7⟩ : ∃ q, q = (pX2_readOwner (va_up (va_up (va_up rd 2 (rd 1)) 3 (pX3_signAt sg pw (rd 1))) 1 ((rd 1) + (1 : Int32))) sg pw) := ⟨_, rfl⟩
        refine mV (ws := (wRd R P (va_up (va_up (va_up rd 2 (rd 1)) 3 (pX3_signAt sg pw (rd 1))) 1 ((rd 1) + (1 : Int32))) ++ (wPd cyC P sg pw))) (ws' := (wRd R P z_7.2 ++ (wPd cyC P sg pw))) (As := []) (rest := []) hx hb hml hown hts hl.1 (WS := (wRd R P (va_up (va_up (va_up rd 2 (rd 1)) 3 (pX3_signAt sg pw (rd 1))) 1 ((rd 1) + (1 : Int32))) ++ (wPd cyC P sg pw))) (WS' := (wRd R P z_7.2 ++ (wPd cyC P sg pw))) (ro := (some (.int z_7.1))) (by rw [hz_7]; exact kX2_readOwner l D cyC cyI cyO R P (va_up (va_up (va_up rd 2 (rd 1)) 3 (pX3_signAt sg pw (rd 1))) 1 ((rd 1) + (1 : Int32))) sg pw hch) bV_X2_readOwner  wml_RX2_46 ⟨rfl, rfl⟩ ⟨Nat.le_of_ble_eq_true rfl, Nat.le_of_ble_eq_true rfl, Nat.zero_le _, Nat.zero_le _⟩ [0, 1, 2] rfl rfl rfl rfl rfl hP hD hS hA hK 0 rfl rfl rfl rfl rfl (Nat.le_of_ble_eq_true rfl) dX2_readOrder_87 (fun H locs hP hD hS => ?_)
        refine lv_if_eq (tgt := 114) hx hb dX2_readOrder_90 (by decide) (fun c_8 => ?_) (fun c_8 => ?_)
        · refine lv_iconst (v := 0) hx hb dX2_readOrder_114 (by decide) ?_
          have e9 : (pX2_readOrder rd sg pw) = (0, z_7.2) := by simp only [pX2_readOrder, ← hz_7, if_neg c_1, if_neg c_2, if_pos c_3, if_pos c_8]
          have e9_0 : (pX2_readOrder rd sg pw).1 = 0 := by rw [e9]
          have e9_1 : (pX2_readOrder rd sg pw).2 = z_7.2 := by rw [e9]
          exact W.zret (ty := .boolean) (v := 0) hx hb hr (by rfl) (fun t ht hW => ⟨⟨by rw [e9_0], by rw [e9_1, ht]; exact hP⟩, hS.F ht⟩) hS.2.2 dX2_readOrder_115
        · refine lv_aload_n hx hb dX2_readOrder_93 rfl (lv_at hl 0 rfl) ?_
          refine lv_bipush (v := 58) hx hb dX2_readOrder_94 (by decide) ?_
          obtain ⟨z_9, hz_9⟩ : ∃ q, q = (pX2_readSign z_7.2 sg pw 58) := ⟨_, rfl⟩
          refine mV (ws := (wRd R P z_7.2 ++ (wPd cyC P sg pw))) (ws' := (wRd R P z_9.2 ++ (wPd cyC P sg pw))) (As := [.int 58]) (rest := []) hx hb hml hown hts hl.1 (WS := (wRd R P z_7.2 ++ (wPd cyC P sg pw))) (WS' := (wRd R P z_9.2 ++ (wPd cyC P sg pw))) (ro := (some (.int z_9.1))) (by rw [hz_9]; exact kX2_readSign l D cyC cyI cyO R P z_7.2 sg pw 58 hch) bV_X2_readSign  wml_RX2_31 ⟨rfl, rfl⟩ ⟨Nat.le_of_ble_eq_true rfl, Nat.le_of_ble_eq_true rfl, Nat.zero_le _, Nat.zero_le _⟩ [0, 1, 2] rfl rfl rfl rfl rfl hP hD hS hA hK 0 rfl rfl rfl rfl rfl (Nat.le_of_ble_eq_true rfl) dX2_readOrder_96 (fun H locs hP hD hS => ?_)
          refine lv_if_eq (tgt := 114) hx hb dX2_readOrder_99 (by decide) (fun c_10 => ?_) (fun c_10 => ?_)
          · refine lv_iconst (v := 0) hx hb dX2_readOrder_114 (by decide) ?_
            have e9 : (pX2_readOrder rd sg pw) = (0, z_9.2) := by simp only [pX2_readOrder, ← hz_7, ← hz_9, if_neg c_1, if_neg c_2, if_pos c_3, if_neg c_8, if_pos c_10]
            have e9_0 : (pX2_readOrder rd sg pw).1 = 0 := by rw [e9]
            have e9_1 : (pX2_readOrder rd sg pw).2 = z_9.2 := by rw [e9]
            exact W.zret (ty := .boolean) (v := 0) hx hb hr (by rfl) (fun t ht hW => ⟨⟨by rw [e9_0], by rw [e9_1, ht]; exact hP⟩, hS.F ht⟩) hS.2.2 dX2_readOrder_115
          · refine lv_aload_n hx hb dX2_readOrder_102 rfl (lv_at hl 0 rfl) ?_
            refine lv_iconst (v := 1) hx hb dX2_readOrder_103 (by decide) ?_
            obtain ⟨z_11, hz_11⟩ : ∃ q, q = (pX2_readNumber z_9.2 sg pw 1) := ⟨_, rfl⟩
            refine mV (ws := (wRd R P z_9.2 ++ (wPd cyC P sg pw))) (ws' := (wRd R P z_11.2 ++ (wPd cyC P sg pw))) (As := [.int 1]) (rest := []) hx hb hml hown hts hl.1 (WS := (wRd R P z_9.2 ++ (wPd cyC P sg pw))) (WS' := (wRd R P z_11.2 ++ (wPd cyC P sg pw))) (ro := (some (.int z_11.1))) (by rw [hz_11]; exact kX2_readNumber l D cyC cyI cyO R P z_9.2 sg pw 1 hch) bV_X2_readNumber  wml_RX2_49 ⟨rfl, rfl⟩ ⟨Nat.le_of_ble_eq_true rfl, Nat.le_of_ble_eq_true rfl, Nat.zero_le _, Nat.zero_le _⟩ [0, 1, 2] rfl rfl rfl rfl rfl hP hD hS hA hK 0 rfl rfl rfl rfl rfl (Nat.le_of_ble_eq_true rfl) dX2_readOrder_104 (fun H locs hP hD hS => ?_)
            refine lv_if_eq (tgt := 114) hx hb dX2_readOrder_107 (by decide) (fun c_12 => ?_) (fun c_12 => ?_)
            · refine lv_iconst (v := 0) hx hb dX2_readOrder_114 (by decide) ?_
              have e9 : (pX2_readOrder rd sg pw) = (0, z_11.2) := by simp only [pX2_readOrder, ← hz_7, ← hz_9, ← hz_11, if_neg c_1, if_neg c_2, if_pos c_3, if_neg c_8, if_neg c_10, if_pos c_12]
              have e9_0 : (pX2_readOrder rd sg pw).1 = 0 := by rw [e9]
              have e9_1 : (pX2_readOrder rd sg pw).2 = z_11.2 := by rw [e9]
              exact W.zret (ty := .boolean) (v := 0) hx hb hr (by rfl) (fun t ht hW => ⟨⟨by rw [e9_0], by rw [e9_1, ht]; exact hP⟩, hS.F ht⟩) hS.2.2 dX2_readOrder_115
            · refine lv_iconst (v := 1) hx hb dX2_readOrder_110 (by decide) ?_
              refine lv_goto (tgt := 115) hx hb dX2_readOrder_111 (by decide) ?_
              have e9 : (pX2_readOrder rd sg pw) = (1, z_11.2) := by simp only [pX2_readOrder, ← hz_7, ← hz_9, ← hz_11, if_neg c_1, if_neg c_2, if_pos c_3, if_neg c_8, if_neg c_10, if_neg c_12]
              have e9_0 : (pX2_readOrder rd sg pw).1 = 1 := by rw [e9]
              have e9_1 : (pX2_readOrder rd sg pw).2 = z_11.2 := by rw [e9]
              exact W.zret (ty := .boolean) (v := 1) hx hb hr (by rfl) (fun t ht hW => ⟨⟨by rw [e9_0], by rw [e9_1, ht]; exact hP⟩, hS.F ht⟩) hS.2.2 dX2_readOrder_115
      · by_cases c_4 : (pX3_signAt sg pw (rd 1)) = 116
        · refine lv_lookup (off := 49) (tgt := 76) hx hb dX2_readOrder_27 (by decide) (by rw [c_4]; rfl) (by decide) ?_
          refine lv_aload_n hx hb dX2_readOrder_76 rfl (lv_at hl 0 rfl) ?_
          refine lv_dup hx hb dX2_readOrder_77 rfl ?_
          refine va_get (D := D) (ci := 2) (v := .int (rd 1)) (C := RX2) (T := TX2) (N := 6) hx hb hts inT_X2 hown hK.1 hP 0 rfl rfl 1 (by decide) (hts _ wfl_RX2_15) (fun _ h9 => h9) rfl dX2_readOrder_78 ?_
          refine lv_iconst (v := 1) hx hb dX2_readOrder_81 (by decide) ?_
          refine lv_iadd hx hb dX2_readOrder_82 ?_
          refine va_put (D := D) (ci := 2) (v := .int ((rd 1) + (1 : Int32))) (ty := .int) (C := RX2) (T := TX2) (N := 6) hx hb hts inT_X2 tyX2 tyX2_ok nmX2 hown hK.1 hP hD hS 0 rfl rfl 1 (by decide) (hts _ wfl_RX2_15) (fun _ h9 => h9) rfl (by decide +kernel) (by rfl) rfl (Nat.le_of_ble_eq_true rfl) dX2_readOrder_83 (fun H locs hP hD hS => ?_)
          have hP : va_P D vwCl (wRd R P (va_up (va_up (va_up rd 2 (rd 1)) 3 (pX3_signAt sg pw (rd 1))) 1 ((rd 1) + (1 : Int32))) ++ (wPd cyC P sg pw)) H := hP
          have hD : va_D A0 (wRd R P (va_up (va_up (va_up rd 2 (rd 1)) 3 (pX3_signAt sg pw (rd 1))) 1 ((rd 1) + (1 : Int32))) ++ (wPd cyC P sg pw)) := hD
          refine lv_aload_n hx hb dX2_readOrder_86 rfl (lv_at hl 0 rfl) ?_
          obtain ⟨z_13, hz_13⟩ : ∃ q, q = (pX2_readOwner (va_up (va_up (va_up rd 2 (rd 1)) 3 (pX3_signAt sg pw (rd 1))) 1 ((rd 1) + (1 : Int32))) sg pw) := ⟨_, rfl⟩
          refine mV (ws := (wRd R P (va_up (va_up (va_up rd 2 (rd 1)) 3 (pX3_signAt sg pw (rd 1))) 1 ((rd 1) + (1 : Int32))) ++ (wPd cyC P sg pw))) (ws' := (wRd R P z_13.2 ++ (wPd cyC P sg pw))) (As := []) (rest := []) hx hb hml hown hts hl.1 (WS := (wRd R P (va_up (va_up (va_up rd 2 (rd 1)) 3 (pX3_signAt sg pw (rd 1))) 1 ((rd 1) + (1 : Int32))) ++ (wPd cyC P sg pw))) (WS' := (wRd R P z_13.2 ++ (wPd cyC P sg pw))) (ro := (some (.int z_13.1))) (by rw [hz_13]; exact kX2_readOwner l D cyC cyI cyO R P (va_up (va_up (va_up rd 2 (rd 1)) 3 (pX3_signAt sg pw (rd 1))) 1 ((rd 1) + (1 : Int32))) sg pw hch) bV_X2_readOwner  wml_RX2_46 ⟨rfl, rfl⟩ ⟨Nat.le_of_ble_eq_true rfl, Nat.le_of_ble_eq_true rfl, Nat.zero_le _, Nat.zero_le _⟩ [0, 1, 2] rfl rfl rfl rfl rfl hP hD hS hA hK 0 rfl rfl rfl rfl rfl (Nat.le_of_ble_eq_true rfl) dX2_readOrder_87 (fun H locs hP hD hS => ?_)
          refine lv_if_eq (tgt := 114) hx hb dX2_readOrder_90 (by decide) (fun c_14 => ?_) (fun c_14 => ?_)
          · refine lv_iconst (v := 0) hx hb dX2_readOrder_114 (by decide) ?_
            have e9 : (pX2_readOrder rd sg pw) = (0, z_13.2) := by simp only [pX2_readOrder, ← hz_13, if_neg c_1, if_neg c_2, if_neg c_3, if_pos c_4, if_pos c_14]
            have e9_0 : (pX2_readOrder rd sg pw).1 = 0 := by rw [e9]
            have e9_1 : (pX2_readOrder rd sg pw).2 = z_13.2 := by rw [e9]
            exact W.zret (ty := .boolean) (v := 0) hx hb hr (by rfl) (fun t ht hW => ⟨⟨by rw [e9_0], by rw [e9_1, ht]; exact hP⟩, hS.F ht⟩) hS.2.2 dX2_readOrder_115
          · refine lv_aload_n hx hb dX2_readOrder_93 rfl (lv_at hl 0 rfl) ?_
            refine lv_bipush (v := 58) hx hb dX2_readOrder_94 (by decide) ?_
            obtain ⟨z_15, hz_15⟩ : ∃ q, q = (pX2_readSign z_13.2 sg pw 58) := ⟨_, rfl⟩
            refine mV (ws := (wRd R P z_13.2 ++ (wPd cyC P sg pw))) (ws' := (wRd R P z_15.2 ++ (wPd cyC P sg pw))) (As := [.int 58]) (rest := []) hx hb hml hown hts hl.1 (WS := (wRd R P z_13.2 ++ (wPd cyC P sg pw))) (WS' := (wRd R P z_15.2 ++ (wPd cyC P sg pw))) (ro := (some (.int z_15.1))) (by rw [hz_15]; exact kX2_readSign l D cyC cyI cyO R P z_13.2 sg pw 58 hch) bV_X2_readSign  wml_RX2_31 ⟨rfl, rfl⟩ ⟨Nat.le_of_ble_eq_true rfl, Nat.le_of_ble_eq_true rfl, Nat.zero_le _, Nat.zero_le _⟩ [0, 1, 2] rfl rfl rfl rfl rfl hP hD hS hA hK 0 rfl rfl rfl rfl rfl (Nat.le_of_ble_eq_true rfl) dX2_readOrder_96 (fun H locs hP hD hS => ?_)
            refine lv_if_eq (tgt := 114) hx hb dX2_readOrder_99 (by decide) (fun c_16 => ?_) (fun c_16 => ?_)
            · refine lv_iconst (v := 0) hx hb dX2_readOrder_114 (by decide) ?_
              have e9 : (pX2_readOrder rd sg pw) = (0, z_15.2) := by simp only [pX2_readOrder, ← hz_13, ← hz_15, if_neg c_1, if_neg c_2, if_neg c_3, if_pos c_4, if_neg c_14, if_pos c_16]
              have e9_0 : (pX2_readOrder rd sg pw).1 = 0 := by rw [e9]
              have e9_1 : (pX2_readOrder rd sg pw).2 = z_15.2 := by rw [e9]
              exact W.zret (ty := .boolean) (v := 0) hx hb hr (by rfl) (fun t ht hW => ⟨⟨by rw [e9_0], by rw [e9_1, ht]; exact hP⟩, hS.F ht⟩) hS.2.2 dX2_readOrder_115
            · refine lv_aload_n hx hb dX2_readOrder_102 rfl (lv_at hl 0 rfl) ?_
              refine lv_iconst (v := 1) hx hb dX2_readOrder_103 (by decide) ?_
              obtain ⟨z_17, hz_17⟩ : ∃ q, q = (pX2_readNumber z_15.2 sg pw 1) := ⟨_, rfl⟩
              refine mV (ws := (wRd R P z_15.2 ++ (wPd cyC P sg pw))) (ws' := (wRd R P z_17.2 ++ (wPd cyC P sg pw))) (As := [.int 1]) (rest := []) hx hb hml hown hts hl.1 (WS := (wRd R P z_15.2 ++ (wPd cyC P sg pw))) (WS' := (wRd R P z_17.2 ++ (wPd cyC P sg pw))) (ro := (some (.int z_17.1))) (by rw [hz_17]; exact kX2_readNumber l D cyC cyI cyO R P z_15.2 sg pw 1 hch) bV_X2_readNumber  wml_RX2_49 ⟨rfl, rfl⟩ ⟨Nat.le_of_ble_eq_true rfl, Nat.le_of_ble_eq_true rfl, Nat.zero_le _, Nat.zero_le _⟩ [0, 1, 2] rfl rfl rfl rfl rfl hP hD hS hA hK 0 rfl rfl rfl rfl rfl (Nat.le_of_ble_eq_true rfl) dX2_readOrder_104 (fun H locs hP hD hS => ?_)
              refine lv_if_eq (tgt := 114) hx hb dX2_readOrder_107 (by decide) (fun c_18 => ?_) (fun c_18 => ?_)
              · refine lv_iconst (v := 0) hx hb dX2_readOrder_114 (by decide) ?_
                have e9 : (pX2_readOrder rd sg pw) = (0, z_17.2) := by simp only [pX2_readOrder, ← hz_13, ← hz_15, ← hz_17, if_neg c_1, if_neg c_2, if_neg c_3, if_pos c_4, if_neg c_14, if_neg c_16, if_pos c_18]
                have e9_0 : (pX2_readOrder rd sg pw).1 = 0 := by rw [e9]
                have e9_1 : (pX2_readOrder rd sg pw).2 = z_17.2 := by rw [e9]
                exact W.zret (ty := .boolean) (v := 0) hx hb hr (by rfl) (fun t ht hW => ⟨⟨by rw [e9_0], by rw [e9_1, ht]; exact hP⟩, hS.F ht⟩) hS.2.2 dX2_readOrder_115
              · refine lv_iconst (v := 1) hx hb dX2_readOrder_110 (by decide) ?_
                refine lv_goto (tgt := 115) hx hb dX2_readOrder_111 (by decide) ?_
                have e9 : (pX2_readOrder rd sg pw) = (1, z_17.2) := by simp only [pX2_readOrder, ← hz_13, ← hz_15, ← hz_17, if_neg c_1, if_neg c_2, if_neg c_3, if_pos c_4, if_neg c_14, if_neg c_16, if_neg c_18]
                have e9_0 : (pX2_readOrder rd sg pw).1 = 1 := by rw [e9]
                have e9_1 : (pX2_readOrder rd sg pw).2 = z_17.2 := by rw [e9]
                exact W.zret (ty := .boolean) (v := 1) hx hb hr (by rfl) (fun t ht hW => ⟨⟨by rw [e9_0], by rw [e9_1, ht]; exact hP⟩, hS.F ht⟩) hS.2.2 dX2_readOrder_115
        · by_cases c_5 : (pX3_signAt sg pw (rd 1)) = 119
          · refine lv_lookup (off := 49) (tgt := 76) hx hb dX2_readOrder_27 (by decide) (by rw [c_5]; rfl) (by decide) ?_
            refine lv_aload_n hx hb dX2_readOrder_76 rfl (lv_at hl 0 rfl) ?_
            refine lv_dup hx hb dX2_readOrder_77 rfl ?_
            refine va_get (D := D) (ci := 2) (v := .int (rd 1)) (C := RX2) (T := TX2) (N := 6) hx hb hts inT_X2 hown hK.1 hP 0 rfl rfl 1 (by decide) (hts _ wfl_RX2_15) (fun _ h9 => h9) rfl dX2_readOrder_78 ?_
            refine lv_iconst (v := 1) hx hb dX2_readOrder_81 (by decide) ?_
            refine lv_iadd hx hb dX2_readOrder_82 ?_
            refine va_put (D := D) (ci := 2) (v := .int ((rd 1) + (1 : Int32))) (ty := .int) (C := RX2) (T := TX2) (N := 6) hx hb hts inT_X2 tyX2 tyX2_ok nmX2 hown hK.1 hP hD hS 0 rfl rfl 1 (by decide) (hts _ wfl_RX2_15) (fun _ h9 => h9) rfl (by decide +kernel) (by rfl) rfl (Nat.le_of_ble_eq_true rfl) dX2_readOrder_83 (fun H locs hP hD hS => ?_)
            have hP : va_P D vwCl (wRd R P (va_up (va_up (va_up rd 2 (rd 1)) 3 (pX3_signAt sg pw (rd 1))) 1 ((rd 1) + (1 : Int32))) ++ (wPd cyC P sg pw)) H := hP
            have hD : va_D A0 (wRd R P (va_up (va_up (va_up rd 2 (rd 1)) 3 (pX3_signAt sg pw (rd 1))) 1 ((rd 1) + (1 : Int32))) ++ (wPd cyC P sg pw)) := hD
            refine lv_aload_n hx hb dX2_readOrder_86 rfl (lv_at hl 0 rfl) ?_
            obtain ⟨z_19, hz_19⟩ : ∃ q, q = (pX2_readOwner (va_up (va_up (va_up rd 2 (rd 1)) 3 (pX3_signAt sg pw (rd 1))) 1 ((rd 1) + (1 : Int32))) sg pw) := ⟨_, rfl⟩
            refine mV (ws := (wRd R P (va_up (va_up (va_up rd 2 (rd 1)) 3 (pX3_signAt sg pw (rd 1))) 1 ((rd 1) + (1 : Int32))) ++ (wPd cyC P sg pw))) (ws' := (wRd R P z_19.2 ++ (wPd cyC P sg pw))) (As := []) (rest := []) hx hb hml hown hts hl.1 (WS := (wRd R P (va_up (va_up (va_up rd 2 (rd 1)) 3 (pX3_signAt sg pw (rd 1))) 1 ((rd 1) + (1 : Int32))) ++ (wPd cyC P sg pw))) (WS' := (wRd R P z_19.2 ++ (wPd cyC P sg pw))) (ro := (some (.int z_19.1))) (by rw [hz_19]; exact kX2_readOwner l D cyC cyI cyO R P (va_up (va_up (va_up rd 2 (rd 1)) 3 (pX3_signAt sg pw (rd 1))) 1 ((rd 1) + (1 : Int32))) sg pw hch) bV_X2_readOwner  wml_RX2_46 ⟨rfl, rfl⟩ ⟨Nat.le_of_ble_eq_true rfl, Nat.le_of_ble_eq_true rfl, Nat.zero_le _, Nat.zero_le _⟩ [0, 1, 2] rfl rfl rfl rfl rfl hP hD hS hA hK 0 rfl rfl rfl rfl rfl (Nat.le_of_ble_eq_true rfl) dX2_readOrder_87 (fun H locs hP hD hS => ?_)
            refine lv_if_eq (tgt := 114) hx hb dX2_readOrder_90 (by decide) (fun c_20 => ?_) (fun c_20 => ?_)
            · refine lv_iconst (v := 0) hx hb dX2_readOrder_114 (by decide) ?_
              have e9 : (pX2_readOrder rd sg pw) = (0, z_19.2) := by simp only [pX2_readOrder, ← hz_19, if_neg c_1, if_neg c_2, if_neg c_3, if_neg c_4, if_pos c_5, if_pos c_20]
              have e9_0 : (pX2_readOrder rd sg pw).1 = 0 := by rw [e9]
              have e9_1 : (pX2_readOrder rd sg pw).2 = z_19.2 := by rw [e9]
              exact W.zret (ty := .boolean) (v := 0) hx hb hr (by rfl) (fun t ht hW => ⟨⟨by rw [e9_0], by rw [e9_1, ht]; exact hP⟩, hS.F ht⟩) hS.2.2 dX2_readOrder_115
            · refine lv_aload_n hx hb dX2_readOrder_93 rfl (lv_at hl 0 rfl) ?_
              refine lv_bipush (v := 58) hx hb dX2_readOrder_94 (by decide) ?_
              obtain ⟨z_21, hz_21⟩ : ∃ q, q = (pX2_readSign z_19.2 sg pw 58) := ⟨_, rfl⟩
              refine mV (ws := (wRd R P z_19.2 ++ (wPd cyC P sg pw))) (ws' := (wRd R P z_21.2 ++ (wPd cyC P sg pw))) (As := [.int 58]) (rest := []) hx hb hml hown hts hl.1 (WS := (wRd R P z_19.2 ++ (wPd cyC P sg pw))) (WS' := (wRd R P z_21.2 ++ (wPd cyC P sg pw))) (ro := (some (.int z_21.1))) (by rw [hz_21]; exact kX2_readSign l D cyC cyI cyO R P z_19.2 sg pw 58 hch) bV_X2_readSign  wml_RX2_31 ⟨rfl, rfl⟩ ⟨Nat.le_of_ble_eq_true rfl, Nat.le_of_ble_eq_true rfl, Nat.zero_le _, Nat.zero_le _⟩ [0, 1, 2] rfl rfl rfl rfl rfl hP hD hS hA hK 0 rfl rfl rfl rfl rfl (Nat.le_of_ble_eq_true rfl) dX2_readOrder_96 (fun H locs hP hD hS => ?_)
              refine lv_if_eq (tgt := 114) hx hb dX2_readOrder_99 (by decide) (fun c_22 => ?_) (fun c_22 => ?_)
              · refine lv_iconst (v := 0) hx hb dX2_readOrder_114 (by decide) ?_
                have e9 : (pX2_readOrder rd sg pw) = (0, z_21.2) := by simp only [pX2_readOrder, ← hz_19, ← hz_21, if_neg c_1, if_neg c_2, if_neg c_3, if_neg c_4, if_pos c_5, if_neg c_20, if_pos c_22]
                have e9_0 : (pX2_readOrder rd sg pw).1 = 0 := by rw [e9]
                have e9_1 : (pX2_readOrder rd sg pw).2 = z_21.2 := by rw [e9]
                exact W.zret (ty := .boolean) (v := 0) hx hb hr (by rfl) (fun t ht hW => ⟨⟨by rw [e9_0], by rw [e9_1, ht]; exact hP⟩, hS.F ht⟩) hS.2.2 dX2_readOrder_115
              · refine lv_aload_n hx hb dX2_readOrder_102 rfl (lv_at hl 0 rfl) ?_
                refine lv_iconst (v := 1) hx hb dX2_readOrder_103 (by decide) ?_
                obtain ⟨z_23, hz_23⟩ : ∃ q, q = (pX2_readNumber z_21.2 sg pw 1) := ⟨_, rfl⟩
                refine mV (ws := (wRd R P z_21.2 ++ (wPd cyC P sg pw))) (ws' := (wRd R P z_23.2 ++ (wPd cyC P sg pw))) (As := [.int 1]) (rest := []) hx hb hml hown hts hl.1 (WS := (wRd R P z_21.2 ++ (wPd cyC P sg pw))) (WS' := (wRd R P z_23.2 ++ (wPd cyC P sg pw))) (ro := (some (.int z_23.1))) (by rw [hz_23]; exact kX2_readNumber l D cyC cyI cyO R P z_21.2 sg pw 1 hch) bV_X2_readNumber  wml_RX2_49 ⟨rfl, rfl⟩ ⟨Nat.le_of_ble_eq_true rfl, Nat.le_of_ble_eq_true rfl, Nat.zero_le _, Nat.zero_le _⟩ [0, 1, 2] rfl rfl rfl rfl rfl hP hD hS hA hK 0 rfl rfl rfl rfl rfl (Nat.le_of_ble_eq_true rfl) dX2_readOrder_104 (fun H locs hP hD hS => ?_)
                refine lv_if_eq (tgt := 114) hx hb dX2_readOrder_107 (by decide) (fun c_24 => ?_) (fun c_24 => ?_)
                · refine lv_iconst (v := 0) hx hb dX2_readOrder_114 (by decide) ?_
                  have e9 : (pX2_readOrder rd sg pw) = (0, z_23.2) := by simp only [pX2_readOrder, ← hz_19, ← hz_21, ← hz_23, if_neg c_1, if_neg c_2, if_neg c_3, if_neg c_4, if_pos c_5, if_neg c_20, if_neg c_22, if_pos c_24]
                  have e9_0 : (pX2_readOrder rd sg pw).1 = 0 := by rw [e9]
                  have e9_1 : (pX2_readOrder rd sg pw).2 = z_23.2 := by rw [e9]
                  exact W.zret (ty := .boolean) (v := 0) hx hb hr (by rfl) (fun t ht hW => ⟨⟨by rw [e9_0], by rw [e9_1, ht]; exact hP⟩, hS.F ht⟩) hS.2.2 dX2_readOrder_115
                · refine lv_iconst (v := 1) hx hb dX2_readOrder_110 (by decide) ?_
                  refine lv_goto (tgt := 115) hx hb dX2_readOrder_111 (by decide) ?_
                  have e9 : (pX2_readOrder rd sg pw) = (1, z_23.2) := by simp only [pX2_readOrder, ← hz_19, ← hz_21, ← hz_23, if_neg c_1, if_neg c_2, if_neg c_3, if_neg c_4, if_pos c_5, if_neg c_20, if_neg c_22, if_neg c_24]
                  have e9_0 : (pX2_readOrder rd sg pw).1 = 1 := by rw [e9]
                  have e9_1 : (pX2_readOrder rd sg pw).2 = z_23.2 := by rw [e9]
                  exact W.zret (ty := .boolean) (v := 1) hx hb hr (by rfl) (fun t ht hW => ⟨⟨by rw [e9_0], by rw [e9_1, ht]; exact hP⟩, hS.F ht⟩) hS.2.2 dX2_readOrder_115
          · refine lv_lookup (off := 117) (tgt := 144) hx hb dX2_readOrder_27 (by decide) (by refine (lv_osw (k := 99) c_1 (by decide)).trans ?_; refine (lv_osw (k := 100) c_2 (by decide)).trans ?_; refine (lv_osw (k := 104) c_3 (by decide)).trans ?_; refine (lv_osw (k := 116) c_4 (by decide)).trans ?_; refine (lv_osw (k := 119) c_5 (by decide)).trans ?_; rfl) (by decide) ?_
            refine lv_iconst (v := 0) hx hb dX2_readOrder_144 (by decide) ?_
            have e9 : (pX2_readOrder rd sg pw) = (0, (va_up (va_up rd 2 (rd 1)) 3 (pX3_signAt sg pw (rd 1)))) := by simp only [pX2_readOrder, if_neg c_1, if_neg c_2, if_neg c_3, if_neg c_4, if_neg c_5]
            have e9_0 : (pX2_readOrder rd sg pw).1 = 0 := by rw [e9]
            have e9_1 : (pX2_readOrder rd sg pw).2 = (va_up (va_up rd 2 (rd 1)) 3 (pX3_signAt sg pw (rd 1))) := by rw [e9]
            exact W.zret (ty := .boolean) (v := 0) hx hb hr (by rfl) (fun t ht hW => ⟨⟨by rw [e9_0], by rw [e9_1, ht]; exact hP⟩, hS.F ht⟩) hS.2.2 dX2_readOrder_145
theorem z_X2_readOrder (rd : (Nat → Int32)) (sg : (Nat → Nat → Int32)) (pw : (Nat → Int32)) : (pX2_readOrder rd sg pw).1 = 0 ∨ (pX2_readOrder rd sg pw).1 = 1 := by
  unfold pX2_readOrder
  (repeat' split) <;> first | with_reducible exact z_X2_readNumber _ _ _ _ | with_reducible exact z_X2_readOwner _ _ _ | with_reducible exact z_X2_readSign _ _ _ _ | with_reducible exact Or.inl rfl | with_reducible exact Or.inr rfl
theorem bV_X2_readOrder : BV RX2 yX2_readOrder cX2_readOrder 1 (some .boolean) 0 := ⟨wcd_X2_readOrder, wim_X2_readOrder, wse_X2_readOrder, win_RX2, by decide +kernel⟩
def pX2_readNext (rd : (Nat → Int32)) (sg : (Nat → Nat → Int32)) (pw : (Nat → Int32)) : Int32 × (Nat → Int32) := (if (rd 1) < (pw 1) then ((pX2_readOrder rd sg pw).1, (pX2_readSign (pX2_readOrder rd sg pw).2 sg pw 44).2) else (0, rd))
set_option maxHeartbeats 4000000 in
set_option maxRecDepth 100000 in
theorem kX2_readNext (l : Launch) (D : va_G) (cyC cyI cyO : ClassId) (R : Nat → Nat) (P : Nat → Nat) (rd : (Nat → Int32)) (sg : (Nat → Nat → Int32)) (pw : (Nat → Int32)) (hch : CH sg) : MU l yX2_readNext (Ty yX2_readNext cX2_readNext 2 (some .boolean)) ({ frames := 5, cells := 0, slots := 0, locals := 108 } : Room) D cyC cyI cyO (wRd R P rd ++ (wPd cyC P sg pw)) [.ref (R 0)] (some (.int (pX2_readNext rd sg pw).1)) (wRd R P (pX2_readNext rd sg pw).2 ++ (wPd cyC P sg pw)) := by
  intro sz
  refine Met.ofW (cc := cX2_readNext) (maxL := 2) (ret := (some .boolean)) (by decide) rfl ?_
  intro p e s m args below meth cd s₁ B hml hv
  obtain ⟨rfl, hsz, hP, hK, hD0⟩ := hv
  have hx := B.exec
  have hb := B.bytes
  have hr := B.returns
  have hts : ∀ w ∈ TB, w.before ([.ref (R 0)] : List Value).toArray s = true := fun w h => atoms_spec (ws := (Ty yX2_readNext cX2_readNext 2 (some .boolean))) B.pre w (List.mem_cons_of_mem _ h)
  have hown : s.vm.findClass RX2 = some m.cls := findClass_of_methodNamed B.named
  have hlocks := B.notSynchronized
  subst hsz
  have hD := hD0.self (sz := s.heap.size)
  have hA : ∀ q : Nat, s.heap.size ≤ q → (va_A (wRd R P rd ++ (wPd cyC P sg pw)) s.heap.size) q := fun q h => Or.inr h
  generalize hAe : va_A (wRd R P rd ++ (wPd cyC P sg pw)) s.heap.size = A0 at hD hA ⊢
  have hS : va_S A0 s.heap s.heap [] := va_S.rf
  have hl := lv_entry ([.ref (R 0)]) (n := 2) (Nat.le_of_ble_eq_true rfl)
  rw [lg_entry_eq]
  generalize (lg_sl ([.ref (R 0)]) ++ List.replicate (2 - (lg_sl ([.ref (R 0)])).length) Slot.unset).toArray = ls at hl ⊢
  have hl : lv_has ls 2 [(0, .ref (R 0))] := hl
  refine lv_aload_n hx hb dX2_readNext_0 rfl (lv_at hl 0 rfl) ?_
  refine va_get (D := D) (ci := 2) (v := .int (rd 1)) (C := RX2) (T := TX2) (N := 6) hx hb hts inT_X2 hown hK.1 hP 0 rfl rfl 1 (by decide) (hts _ wfl_RX2_15) (fun _ h9 => h9) rfl dX2_readNext_1 ?_
  refine lv_aload_n hx hb dX2_readNext_4 rfl (lv_at hl 0 rfl) ?_
  refine va_get (D := D) (ci := 2) (v := .ref (P 0)) (C := RX2) (T := TX2) (N := 6) hx hb hts inT_X2 hown hK.1 hP 0 rfl rfl 0 (by decide) (hts _ wfl_RX2_9) (fun _ h9 => h9) rfl dX2_readNext_5 ?_
  refine va_get (D := D) (ci := 3) (v := .int (pw 1)) (C := RX3) (T := TX3) (N := 2) hx hb hts inT_X3 hown hK.1 hP 1 rfl rfl 1 (by decide) (hts _ wfl_RX2_26) (fun _ h9 => h9) rfl dX2_readNext_8 ?_
  refine lv_icmp_lt (tgt := 16) hx hb dX2_readNext_11 (by decide) (fun c_1 => ?_) (fun c_1 => ?_)
  · refine lv_aload_n hx hb dX2_readNext_16 rfl (lv_at hl 0 rfl) ?_
    obtain ⟨z_2, hz_2⟩ : ∃ q, q = (pX2_readOrder rd sg pw) := ⟨_, rfl⟩
    refine mV (ws := (wRd R P rd ++ (wPd cyC P sg pw))) (ws' := (wRd R P z_2.2 ++ (wPd cyC P sg pw))) (As := []) (rest := []) hx hb hml hown hts hl.1 (WS := (wRd R P rd ++ (wPd cyC P sg pw))) (WS' := (wRd R P z_2.2 ++ (wPd cyC P sg pw))) (ro := (some (.int z_2.1))) (by rw [hz_2]; exact kX2_readOrder l D cyC cyI cyO R P rd sg pw hch) bV_X2_readOrder  wml_RX2_22 ⟨rfl, rfl⟩ ⟨Nat.le_of_ble_eq_true rfl, Nat.le_of_ble_eq_true rfl, Nat.zero_le _, Nat.zero_le _⟩ [0, 1, 2] rfl rfl rfl rfl rfl hP hD hS hA hK 0 rfl rfl rfl rfl rfl (Nat.le_of_ble_eq_true rfl) dX2_readNext_17 (fun H locs hP hD hS => ?_)
    refine lv_istore_n (lv' := [(1, .int z_2.1), (0, .ref (R 0))]) hx hb dX2_readNext_20 rfl hl (by decide) rfl (fun ls hl => ?_)
    refine lv_aload_n hx hb dX2_readNext_21 rfl (lv_at hl 1 rfl) ?_
    refine lv_bipush (v := 44) hx hb dX2_readNext_22 (by decide) ?_
    obtain ⟨z_3, hz_3⟩ : ∃ q, q = (pX2_readSign z_2.2 sg pw 44) := ⟨_, rfl⟩
    refine mV (ws := (wRd R P z_2.2 ++ (wPd cyC P sg pw))) (ws' := (wRd R P z_3.2 ++ (wPd cyC P sg pw))) (As := [.int 44]) (rest := []) hx hb hml hown hts hl.1 (WS := (wRd R P z_2.2 ++ (wPd cyC P sg pw))) (WS' := (wRd R P z_3.2 ++ (wPd cyC P sg pw))) (ro := (some (.int z_3.1))) (by rw [hz_3]; exact kX2_readSign l D cyC cyI cyO R P z_2.2 sg pw 44 hch) bV_X2_readSign  wml_RX2_31 ⟨rfl, rfl⟩ ⟨Nat.le_of_ble_eq_true rfl, Nat.le_of_ble_eq_true rfl, Nat.zero_le _, Nat.zero_le _⟩ [0, 1, 2] rfl rfl rfl rfl rfl hP hD hS hA hK 0 rfl rfl rfl rfl rfl (Nat.le_of_ble_eq_true rfl) dX2_readNext_24 (fun H locs hP hD hS => ?_)
    refine lv_pop hx hb dX2_readNext_27 rfl ?_
    refine lv_iload_n hx hb dX2_readNext_28 rfl (lv_at hl 0 rfl) ?_
    have e9 : (pX2_readNext rd sg pw) = (z_2.1, z_3.2) := by simp only [pX2_readNext, ← hz_2, ← hz_3, if_pos c_1]
    have e9_0 : (pX2_readNext rd sg pw).1 = z_2.1 := by rw [e9]
    have e9_1 : (pX2_readNext rd sg pw).2 = z_3.2 := by rw [e9]
    exact W.zret (ty := .boolean) (v := z_2.1) hx hb hr (nz (by rw [hz_2]; exact z_X2_readOrder _ _ _)) (fun t ht hW => ⟨⟨by rw [e9_0], by rw [e9_1, ht]; exact hP⟩, hS.F ht⟩) hS.2.2 dX2_readNext_29
  · refine lv_iconst (v := 0) hx hb dX2_readNext_14 (by decide) ?_
    have e9 : (pX2_readNext rd sg pw) = (0, rd) := by simp only [pX2_readNext, if_neg c_1]
    have e9_0 : (pX2_readNext rd sg pw).1 = 0 := by rw [e9]
    have e9_1 : (pX2_readNext rd sg pw).2 = rd := by rw [e9]
    exact W.zret (ty := .boolean) (v := 0) hx hb hr (by rfl) (fun t ht hW => ⟨⟨by rw [e9_0], by rw [e9_1, ht]; exact hP⟩, hS.F ht⟩) hS.2.2 dX2_readNext_15
theorem z_X2_readNext (rd : (Nat → Int32)) (sg : (Nat → Nat → Int32)) (pw : (Nat → Int32)) : (pX2_readNext rd sg pw).1 = 0 ∨ (pX2_readNext rd sg pw).1 = 1 := by
  unfold pX2_readNext
  (repeat' split) <;> first | with_reducible exact z_X2_readOrder _ _ _ | with_reducible exact z_X2_readSign _ _ _ _ | with_reducible exact Or.inl rfl | with_reducible exact Or.inr rfl
theorem bV_X2_readNext : BV RX2 yX2_readNext cX2_readNext 2 (some .boolean) 0 := ⟨wcd_X2_readNext, wim_X2_readNext, wse_X2_readNext, win_RX2, by decide +kernel⟩
def pX2_firstFault_L6 (rd : (Nat → Int32)) (sg : (Nat → Nat → Int32)) (pw : (Nat → Int32)) : Nat → Nat → (Nat → Int32) → Int32 × (Nat → Int32)
  | 0, i, w0_0 => ((w0_0 1), w0_0)
  | k + 1, i, w0_0 => (if (pX2_readOrder w0_0 sg pw).1 = 0 then (((pX2_readOrder w0_0 sg pw).2 1), (pX2_readOrder w0_0 sg pw).2) else (if ((pX2_readOrder w0_0 sg pw).2 1) = (pw 1) then ((-4), (pX2_readOrder w0_0 sg pw).2) else (if (pX2_readSign (pX2_readOrder w0_0 sg pw).2 sg pw 44).1 = 0 then (((pX2_readSign (pX2_readOrder w0_0 sg pw).2 sg pw 44).2 1), (pX2_readSign (pX2_readOrder w0_0 sg pw).2 sg pw 44).2) else (pX2_firstFault_L6 rd sg pw k (i + 1) (pX2_readSign (pX2_readOrder w0_0 sg pw).2 sg pw 44).2))))
theorem pX2_firstFault_L6_0 (rd : (Nat → Int32)) (sg : (Nat → Nat → Int32)) (pw : (Nat → Int32)) (i : Nat) (w0_0 : (Nat → Int32)) : pX2_firstFault_L6 rd sg pw 0 i w0_0 = ((w0_0 1), w0_0) := rfl
theorem pX2_firstFault_L6_s (rd : (Nat → Int32)) (sg : (Nat → Nat → Int32)) (pw : (Nat → Int32)) (k i : Nat) (w0_0 : (Nat → Int32)) : pX2_firstFault_L6 rd sg pw (k + 1) i w0_0 = (if (pX2_readOrder w0_0 sg pw).1 = 0 then (((pX2_readOrder w0_0 sg pw).2 1), (pX2_readOrder w0_0 sg pw).2) else (if ((pX2_readOrder w0_0 sg pw).2 1) = (pw 1) then ((-4), (pX2_readOrder w0_0 sg pw).2) else (if (pX2_readSign (pX2_readOrder w0_0 sg pw).2 sg pw 44).1 = 0 then (((pX2_readSign (pX2_readOrder w0_0 sg pw).2 sg pw 44).2 1), (pX2_readSign (pX2_readOrder w0_0 sg pw).2 sg pw 44).2) else (pX2_firstFault_L6 rd sg pw k (i + 1) (pX2_readSign (pX2_readOrder w0_0 sg pw).2 sg pw 44).2)))) := rfl
def pX2_firstFault (rd : (Nat → Int32)) (sg : (Nat → Nat → Int32)) (pw : (Nat → Int32)) : Int32 × (Nat → Int32) := (pX2_firstFault_L6 rd sg pw 61 0 (pX2_rewind rd sg pw))
set_option maxHeartbeats 4000000 in
set_option maxRecDepth 100000 in
theorem kX2_firstFault (l : Launch) (D : va_G) (cyC cyI cyO : ClassId) (R : Nat → Nat) (P : Nat → Nat) (rd : (Nat → Int32)) (sg : (Nat → Nat → Int32)) (pw : (Nat → Int32)) (hch : CH sg) : MU l yX2_firstFault (Ty yX2_firstFault cX2_firstFault 2 (some .int)) ({ frames := 5, cells := 0, slots := 0, locals := 108 } : Room) D cyC cyI cyO (wRd R P rd ++ (wPd cyC P sg pw)) [.ref (R 0)] (some (.int (pX2_firstFault rd sg pw).1)) (wRd R P (pX2_firstFault rd sg pw).2 ++ (wPd cyC P sg pw)) := by
  intro sz
  refine Met.ofW (cc := cX2_firstFault) (maxL := 2) (ret := (some .int)) (by decide) rfl ?_
  intro p e s m args below meth cd s₁ B hml hv
  obtain ⟨rfl, hsz, hP, hK, hD0⟩ := hv
  have hx := B.exec
  have hb := B.bytes
  have hr := B.returns
  have hts : ∀ w ∈ TB, w.before ([.ref (R 0)] : List Value).toArray s = true := fun w h => atoms_spec (ws := (Ty yX2_firstFault cX2_firstFault 2 (some .int))) B.pre w (List.mem_cons_of_mem _ h)
  have hown : s.vm.findClass RX2 = some m.cls := findClass_of_methodNamed B.named
  have hlocks := B.notSynchronized
  subst hsz
  have hD := hD0.self (sz := s.heap.size)
  have hA : ∀ q : Nat, s.heap.size ≤ q → (va_A (wRd R P rd ++ (wPd cyC P sg pw)) s.heap.size) q := fun q h => Or.inr h
  generalize hAe : va_A (wRd R P rd ++ (wPd cyC P sg pw)) s.heap.size = A0 at hD hA ⊢
  have hS : va_S A0 s.heap s.heap [] := va_S.rf
  have hl := lv_entry ([.ref (R 0)]) (n := 2) (Nat.le_of_ble_eq_true rfl)
  rw [lg_entry_eq]
  generalize (lg_sl ([.ref (R 0)]) ++ List.replicate (2 - (lg_sl ([.ref (R 0)])).length) Slot.unset).toArray = ls at hl ⊢
  have hl : lv_has ls 2 [(0, .ref (R 0))] := hl
  refine lv_aload_n hx hb dX2_firstFault_0 rfl (lv_at hl 0 rfl) ?_
  obtain ⟨z_1, hz_1⟩ : ∃ q, q = (pX2_rewind rd sg pw) := ⟨_, rfl⟩
  refine mV (ws := (wRd R P rd ++ (wPd cyC P sg pw))) (ws' := (wRd R P z_1 ++ (wPd cyC P sg pw))) (As := []) (rest := []) hx hb hml hown hts hl.1 (WS := (wRd R P rd ++ (wPd cyC P sg pw))) (WS' := (wRd R P z_1 ++ (wPd cyC P sg pw))) (ro := none) (by rw [hz_1]; exact kX2_rewind l D cyC cyI cyO R P rd sg pw) bV_X2_rewind  wml_RX2_19 ⟨rfl, rfl⟩ ⟨Nat.le_of_ble_eq_true rfl, Nat.le_of_ble_eq_true rfl, Nat.zero_le _, Nat.zero_le _⟩ [0, 1, 2] rfl rfl rfl rfl rfl hP hD hS hA hK 0 rfl rfl rfl rfl rfl (Nat.le_of_ble_eq_true rfl) dX2_firstFault_1 (fun H locs hP hD hS => ?_)
  refine lv_iconst (v := 0) hx hb dX2_firstFault_4 (by decide) ?_
  refine lv_istore_n (lv' := [(1, .int 0), (0, .ref (R 0))]) hx hb dX2_firstFault_5 rfl hl (by decide) rfl (fun ls hl => ?_)
  have key_6 : ∀ k i : Nat, i + k = 61 → ∀ (w0_0 : (Nat → Int32)), pX2_firstFault_L6 rd sg pw k i w0_0 = (pX2_firstFault rd sg pw) → ∀ (H : Heap) (locs : List Loc), va_P D vwCl (wRd R P w0_0 ++ (wPd cyC P sg pw)) H → va_D A0 (wRd R P w0_0 ++ (wPd cyC P sg pw)) → va_S A0 s.heap H locs → ∀ (ls : Array Slot), lv_has ls 2 [(0, .ref (R 0)), (1, .int (nI i))] → W p l e (headSpec (Ty yX2_firstFault cX2_firstFault 2 (some .int)) ({ frames := 5, cells := 0, slots := 0, locals := 108 } : Room)).room s m ([.ref (R 0)] : List Value).toArray below meth cd H locs 0 0 (MQ below (MQQ (some (.int (pX2_firstFault rd sg pw).1)) D (wRd R P (pX2_firstFault rd sg pw).2 ++ (wPd cyC P sg pw)) A0) ([.ref (R 0)] : List Value).toArray s 0 0 A0) (F0 m 6 ls []) := by
    intro k
    induction k with
    | zero =>
      intro i hi_6 w0_0 hN_6 H locs hP hD hS ls hl
      obtain rfl : i = 61 := hi_6
      refine lv_iload_n hx hb dX2_firstFault_6 rfl (lv_at hl 1 rfl) ?_
      refine lv_bipush (v := 60) hx hb dX2_firstFault_7 (by decide) ?_
      refine lv_icmp_gt (tgt := 61) hx hb dX2_firstFault_9 (by decide) (fun c_2 => ?_) (fun c_2 => absurd (show (60 : Int32) < nI 61 by decide) c_2)
      refine lv_aload_n hx hb dX2_firstFault_61 rfl (lv_at hl 0 rfl) ?_
      refine va_get (D := D) (ci := 2) (v := .int (w0_0 1)) (C := RX2) (T := TX2) (N := 6) hx hb hts inT_X2 hown hK.1 hP 0 rfl rfl 1 (by decide) (hts _ wfl_RX2_15) (fun _ h9 => h9) rfl dX2_firstFault_62 ?_
      have e9 : (pX2_firstFault rd sg pw) = ((w0_0 1), w0_0) := by rw [← hN_6, pX2_firstFault_L6_0] <;> simp only [← hz_1]
      have e9_0 : (pX2_firstFault rd sg pw).1 = (w0_0 1) := by rw [e9]
      have e9_1 : (pX2_firstFault rd sg pw).2 = w0_0 := by rw [e9]
      exact W.iret (v := (w0_0 1)) hx hb hr (fun t ht hW => ⟨⟨by rw [e9_0], by rw [e9_1, ht]; exact hP⟩, hS.F ht⟩) hS.2.2 dX2_firstFault_65
    | succ k ih_6 =>
      intro i hi_6 w0_0 hN_6 H locs hP hD hS ls hl
      have hlt : i < 61 := by omega
      refine lv_iload_n hx hb dX2_firstFault_6 rfl (lv_at hl 1 rfl) ?_
      refine lv_bipush (v := 60) hx hb dX2_firstFault_7 (by decide) ?_
      refine lv_icmp_gt (tgt := 61) hx hb dX2_firstFault_9 (by decide) (fun c_3 => absurd c_3 (nI_nlt (a := 60) (Nat.le_of_lt_succ hlt) (by decide))) (fun c_3 => ?_)
      refine lv_aload_n hx hb dX2_firstFault_12 rfl (lv_at hl 0 rfl) ?_
      obtain ⟨z_4, hz_4⟩ : ∃ q, q = (pX2_readOrder w0_0 sg pw) := ⟨_, rfl⟩
      refine mV (ws := (wRd R P w0_0 ++ (wPd cyC P sg pw))) (ws' := (wRd R P z_4.2 ++ (wPd cyC P sg pw))) (As := []) (rest := []) hx hb hml hown hts hl.1 (WS := (wRd R P w0_0 ++ (wPd cyC P sg pw))) (WS' := (wRd R P z_4.2 ++ (wPd cyC P sg pw))) (ro := (some (.int z_4.1))) (by rw [hz_4]; exact kX2_readOrder l D cyC cyI cyO R P w0_0 sg pw hch) bV_X2_readOrder  wml_RX2_22 ⟨rfl, rfl⟩ ⟨Nat.le_of_ble_eq_true rfl, Nat.le_of_ble_eq_true rfl, Nat.zero_le _, Nat.zero_le _⟩ [0, 1, 2] rfl rfl rfl rfl rfl hP hD hS hA hK 0 rfl rfl rfl rfl rfl (Nat.le_of_ble_eq_true rfl) dX2_firstFault_13 (fun H locs hP hD hS => ?_)
      refine lv_if_ne (tgt := 24) hx hb dX2_firstFault_16 (by decide) (fun c_5 => ?_) (fun c_5 => ?_)
      · refine lv_aload_n hx hb dX2_firstFault_24 rfl (lv_at hl 0 rfl) ?_
        refine va_get (D := D) (ci := 2) (v := .int (z_4.2 1)) (C := RX2) (T := TX2) (N := 6) hx hb hts inT_X2 hown hK.1 hP 0 rfl rfl 1 (by decide) (hts _ wfl_RX2_15) (fun _ h9 => h9) rfl dX2_firstFault_25 ?_
        refine lv_aload_n hx hb dX2_firstFault_28 rfl (lv_at hl 0 rfl) ?_
        refine va_get (D := D) (ci := 2) (v := .ref (P 0)) (C := RX2) (T := TX2) (N := 6) hx hb hts inT_X2 hown hK.1 hP 0 rfl rfl 0 (by decide) (hts _ wfl_RX2_9) (fun _ h9 => h9) rfl dX2_firstFault_29 ?_
        refine va_get (D := D) (ci := 3) (v := .int (pw 1)) (C := RX3) (T := TX3) (N := 2) hx hb hts inT_X3 hown hK.1 hP 1 rfl rfl 1 (by decide) (hts _ wfl_RX2_26) (fun _ h9 => h9) rfl dX2_firstFault_32 ?_
        refine lv_icmp_ne (tgt := 41) hx hb dX2_firstFault_35 (by decide) (fun c_6 => ?_) (fun c_6 => ?_)
        · refine lv_aload_n hx hb dX2_firstFault_41 rfl (lv_at hl 0 rfl) ?_
          refine lv_bipush (v := 44) hx hb dX2_firstFault_42 (by decide) ?_
          obtain ⟨z_7, hz_7⟩ : ∃ q, q = (pX2_readSign z_4.2 sg pw 44) := ⟨_, rfl⟩
          refine mV (ws := (wRd R P z_4.2 ++ (wPd cyC P sg pw))) (ws' := (wRd R P z_7.2 ++ (wPd cyC P sg pw))) (As := [.int 44]) (rest := []) hx hb hml hown hts hl.1 (WS := (wRd R P z_4.2 ++ (wPd cyC P sg pw))) (WS' := (wRd R P z_7.2 ++ (wPd cyC P sg pw))) (ro := (some (.int z_7.1))) (by rw [hz_7]; exact kX2_readSign l D cyC cyI cyO R P z_4.2 sg pw 44 hch) bV_X2_readSign  wml_RX2_31 ⟨rfl, rfl⟩ ⟨Nat.le_of_ble_eq_true rfl, Nat.le_of_ble_eq_true rfl, Nat.zero_le _, Nat.zero_le _⟩ [0, 1, 2] rfl rfl rfl rfl rfl hP hD hS hA hK 0 rfl rfl rfl rfl rfl (Nat.le_of_ble_eq_true rfl) dX2_firstFault_44 (fun H locs hP hD hS => ?_)
          refine lv_if_ne (tgt := 55) hx hb dX2_firstFault_47 (by decide) (fun c_8 => ?_) (fun c_8 => ?_)
          · refine lv_iinc (v := (nI (i + 1))) (lv' := [(1, .int (nI (i + 1))), (0, .ref (R 0))]) hx hb dX2_firstFault_55 hl (k := 1) rfl (nI_succ i).symm (by decide) rfl (fun ls hl => ?_)
            refine lv_goto (tgt := 6) hx hb dX2_firstFault_58 (by decide) ?_
            exact ih_6 (i + 1) (by omega) z_7.2 (by rw [← hN_6, pX2_firstFault_L6_s] <;> simp only [← hz_1, ← hz_4, ← hz_7, if_neg c_5, if_neg c_6, if_neg c_8]) _ _ hP hD hS ls (lv_sub hl [1, 0] rfl)
          · refine lv_aload_n hx hb dX2_firstFault_50 rfl (lv_at hl 0 rfl) ?_
            refine va_get (D := D) (ci := 2) (v := .int (z_7.2 1)) (C := RX2) (T := TX2) (N := 6) hx hb hts inT_X2 hown hK.1 hP 0 rfl rfl 1 (by decide) (hts _ wfl_RX2_15) (fun _ h9 => h9) rfl dX2_firstFault_51 ?_
            have e9 : (pX2_firstFault rd sg pw) = ((z_7.2 1), z_7.2) := by rw [← hN_6, pX2_firstFault_L6_s] <;> simp only [← hz_1, ← hz_4, ← hz_7, if_neg c_5, if_neg c_6, if_pos c_8]
            have e9_0 : (pX2_firstFault rd sg pw).1 = (z_7.2 1) := by rw [e9]
            have e9_1 : (pX2_firstFault rd sg pw).2 = z_7.2 := by rw [e9]
            exact W.iret (v := (z_7.2 1)) hx hb hr (fun t ht hW => ⟨⟨by rw [e9_0], by rw [e9_1, ht]; exact hP⟩, hS.F ht⟩) hS.2.2 dX2_firstFault_54
        · refine lv_bipush (v := (-4)) hx hb dX2_firstFault_38 (by decide) ?_
          have e9 : (pX2_firstFault rd sg pw) = ((-4), z_4.2) := by rw [← hN_6, pX2_firstFault_L6_s] <;> simp only [← hz_1, ← hz_4, if_neg c_5, if_pos c_6]
          have e9_0 : (pX2_firstFault rd sg pw).1 = (-4) := by rw [e9]
          have e9_1 : (pX2_firstFault rd sg pw).2 = z_4.2 := by rw [e9]
          exact W.iret (v := (-4)) hx hb hr (fun t ht hW => ⟨⟨by rw [e9_0], by rw [e9_1, ht]; exact hP⟩, hS.F ht⟩) hS.2.2 dX2_firstFault_40
      · refine lv_aload_n hx hb dX2_firstFault_19 rfl (lv_at hl 0 rfl) ?_
        refine va_get (D := D) (ci := 2) (v := .int (z_4.2 1)) (C := RX2) (T := TX2) (N := 6) hx hb hts inT_X2 hown hK.1 hP 0 rfl rfl 1 (by decide) (hts _ wfl_RX2_15) (fun _ h9 => h9) rfl dX2_firstFault_20 ?_
        have e9 : (pX2_firstFault rd sg pw) = ((z_4.2 1), z_4.2) := by rw [← hN_6, pX2_firstFault_L6_s] <;> simp only [← hz_1, ← hz_4, if_pos c_5]
        have e9_0 : (pX2_firstFault rd sg pw).1 = (z_4.2 1) := by rw [e9]
        have e9_1 : (pX2_firstFault rd sg pw).2 = z_4.2 := by rw [e9]
        exact W.iret (v := (z_4.2 1)) hx hb hr (fun t ht hW => ⟨⟨by rw [e9_0], by rw [e9_1, ht]; exact hP⟩, hS.F ht⟩) hS.2.2 dX2_firstFault_23
  exact key_6 61 0 (Nat.zero_add 61) z_1 (by simp only [pX2_firstFault, ← hz_1]) _ _ hP hD hS ls (lv_sub hl [1, 0] rfl)
theorem bV_X2_firstFault : BV RX2 yX2_firstFault cX2_firstFault 2 (some .int) 0 := ⟨wcd_X2_firstFault, wim_X2_firstFault, wse_X2_firstFault, win_RX2, by decide +kernel⟩
