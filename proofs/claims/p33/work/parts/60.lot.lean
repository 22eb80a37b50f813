/-! ===== lot: an int of the script, or one of its own ===== -/
def XP (b L : Nat) (xs : Nat → Int32) : State → Prop := fun U => va_X b L xs U U.heap
def lotV (L : Nat) (xs : Nat → Int32) (a : Nat) : Int32 := if a < L then xs a else (522063469 : Int32) * (nI a + (4759 : Int32)) + (4523 : Int32)
theorem xp_blind {b L : Nat} {xs : Nat → Int32} {av : List Value} : FrameBlind (va_Pc av (XP b L xs)) := fun a U g mk q => by
  obtain ⟨q0, qX⟩ := q
  exact ⟨q0, va_X.moved (u := U) (U := U.calling g mk a) (Vm.Alike.refl U.vm) qX⟩
theorem ofN_nI (L : Nat) : Int32.ofNat L = nI L := rfl
set_option maxHeartbeats 4000000 in
set_option maxRecDepth 100000 in
theorem kL_lot (l : Launch) {b L a : Nat} {xs : Nat → Int32} (hL : L ≤ 260) (ha : a < 1000) : Met l yL_lot (Ty yL_lot cL_lot 2 (some .int)) ({ frames := 0, cells := 0, slots := 0, locals := 0 } : Room) (va_Pc [.ref b, .int (nI a)] (XP b L xs)) (vp_Si (fun x => x = lotV L xs a)) 0 0 (fun _ => False) := by
  refine Met.ofW (cc := cL_lot) (maxL := 2) (ret := (some .int)) (by decide) rfl ?_
  intro p e s m args below meth cd s₁ B hml hv
  obtain ⟨rfl, hX⟩ := hv
  have hx := B.exec
  have hb := B.bytes
  have hr := B.returns
  have hts : ∀ w ∈ TB, w.before ([.ref b, .int (nI a)] : List Value).toArray s = true := fun w h => atoms_spec (ws := (Ty yL_lot cL_lot 2 (some .int))) B.pre w (List.mem_cons_of_mem _ h)
  have hown : s.vm.findClass RL = some m.cls := findClass_of_methodNamed B.named
  have hlocks := B.notSynchronized
  have hS : va_S (fun q : Nat => s.heap.size ≤ q) s.heap s.heap [] := va_S.rf
  have hX : va_X b L xs s s.heap := hX
  have hbl : b < s.heap.size := by
    obtain ⟨scr, h1, -⟩ := hX
    exact (Array.getElem?_eq_some_iff.mp h1).1
  have hbA : ¬ (fun q : Nat => s.heap.size ≤ q) b := Nat.not_le.mpr hbl
  have hl := lv_entry ([.ref b, .int (nI a)]) (n := 2) (Nat.le_of_ble_eq_true rfl)
  rw [lg_entry_eq]
  generalize (lg_sl ([.ref b, .int (nI a)]) ++ List.replicate (2 - (lg_sl ([.ref b, .int (nI a)])).length) Slot.unset).toArray = ls at hl ⊢
  have hl : lv_has ls 2 [(0, .ref b), (1, .int (nI a))] := hl
  refine lv_iload_n hx hb dL_lot_0 rfl (lv_at hl 1 rfl) ?_
  refine lv_aload_n hx hb dL_lot_1 rfl (lv_at hl 0 rfl) ?_
  refine va_slen hx hb hX hbl hbA hS dL_lot_2 ?_
  refine lv_icmp_ge (tgt := 12) hx hb dL_lot_3 (by decide) (fun q => ?_) (fun q => ?_)
  · have hn : ¬ a < L := fun z => by
      rw [ofN_nI] at q
      exact absurd q (nI_ge z (by omega))
    refine lv_ldc (v := 522063469) hx hb hown (hts _ wco_RL_7) dL_lot_12 ?_
    refine lv_iload_n hx hb dL_lot_14 rfl (lv_at hl 1 rfl) ?_
    refine lv_sipush (v := 4759) hx hb dL_lot_15 (by decide) ?_
    refine lv_iadd hx hb dL_lot_18 ?_
    refine lv_imul hx hb dL_lot_19 ?_
    refine lv_sipush (v := 4523) hx hb dL_lot_20 (by decide) ?_
    refine lv_iadd hx hb dL_lot_23 ?_
    have e9 : (522063469 : Int32) * (nI a + (4759 : Int32)) + (4523 : Int32) = lotV L xs a := (if_neg hn).symm
    exact W.iret (v := (522063469 : Int32) * (nI a + (4759 : Int32)) + (4523 : Int32)) hx hb hr (fun t ht hW => ⟨_, rfl, e9, ht⟩) (fun _ h => absurd h List.not_mem_nil) dL_lot_24
  · have hn : a < L := Decidable.byContradiction fun z => by
      rw [ofN_nI] at q
      exact q (nI_le (by omega) (by omega))
    refine lv_aload_n hx hb dL_lot_6 rfl (lv_at hl 0 rfl) ?_
    refine lv_iload_n hx hb dL_lot_7 rfl (lv_at hl 1 rfl) ?_
    refine va_sld hx hb hX hbl hbA hS (vp_in_nI (by omega) (by omega)) dL_lot_8 ?_
    rw [nI_clamp (by omega)]
    refine lv_goto (tgt := 24) hx hb dL_lot_9 (by decide) ?_
    have e9 : xs a = lotV L xs a := (if_pos hn).symm
    exact W.iret (v := xs a) hx hb hr (fun t ht hW => ⟨_, rfl, e9, ht⟩) (fun _ h => absurd h List.not_mem_nil) dL_lot_24
theorem bS_L_lot : BS yL_lot cL_lot 2 (some .int) 2 := ⟨wcd_L_lot, wst_L_lot, win_RL, by decide +kernel⟩
section LOTC
variable {p : Program} {l : Launch} {e : Env} {R : Room} {s : State} {m : MethodId} {args : Array Value} {below : List Frame} {meth : Method} {c : Code} {H : Heap} {locs : List Loc} {cells slots : Nat} {Q : State → Prop}
variable {pc : Nat} {ls : Array Slot} {rest : List Value} {cc : ByteArray} {nL b L a : Nat} {xs : Nat → Int32} {A : Nat → Prop} {H0 : Heap}
theorem lotC (hx : p.tables.exec = Jvm.exec) (hb : c.code = cc) (hml : c.maxLocals = nL) (hown : s.vm.findClass RL = some m.cls) (hts : ∀ w ∈ TB, w.before args s = true) (hls : ls.size = nL) (hL : L ≤ 260) (ha : a < 1000)
    (hR : 1 ≤ R.frames ∧ 21 ≤ R.locals ∧ cells ≤ R.cells ∧ slots ≤ R.slots) (hX : va_X b L xs s H0) (hbl : b < H0.size) (hbA : ¬ A b) (hS : va_S A H0 H locs) (hroom : (rest.map fun v => v.category).sum ≤ 8) (hdg : decode cc pc = .ok (.invokestatic 146, 3))
    (kk : W p l e R s m args below meth c H locs cells slots Q (F0 m (pc + 3) ls (.int (lotV L xs a) :: rest))) : W p l e R s m args below meth c H locs cells slots Q (F0 m pc ls (.int (nI a) :: .ref b :: rest)) := by
  have hX1 : va_X b L xs s H := va_X.kept hX (hS.2.1 b hbl hbA)
  exact ro_end (va_runS (As := [.ref b, .int (nI a)]) (rest := rest) ⟨hx, hb, hml, hown, hts⟩ (kL_lot l hL ha) (va_cwS 2 hts (good3 wml_RL_146 bS_L_lot.2.1 bS_L_lot.2.2.1 (TyGood bS_L_lot.1)) rfl rfl rfl bS_L_lot.2.2.2 ⟨hR.1, hR.2.1⟩) ⟨xp_blind, fun U hU hW => ⟨rfl, by
    show va_X b L xs U U.heap
    rw [hU]
    exact va_X.moved hW.alike hX1⟩⟩ rfl rfl hls rfl (lv_room hroom) hdg hR.2.2) kk
end LOTC
