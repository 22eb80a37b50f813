theorem SB_tr {a b c : Int32} (h1 : SB a b) (h2 : SB b c) : SB a c := by
  unfold SB at h1 h2 ⊢
  rw [← h2, ← Int32.or_assoc, h1]
theorem ff_sub1 (u : Nat → Nat → Int32) (w : Nat → Int32) (a1 a2 : Int32) (n : Nat) : SB a2 (pX7_furtherFrom_L5 u w a1 a2 n) := by
  induction n with
  | zero => exact SB_rf _
  | succ n ih =>
    rw [pX7_furtherFrom_L5_s]
    repeat' split
    all_goals first | exact SB_or _ (SB_or _ ih) | exact SB_or _ ih | exact ih
theorem ff_sub (u : Nat → Nat → Int32) (w : Nat → Int32) (a1 a2 : Int32) : SB a2 (pX7_furtherFrom u w a1 a2) := ff_sub1 u w a1 a2 28
def pX7_comeTo_L18 (u : (Nat → Nat → Int32)) (w : (Nat → Int32)) (a1 : Int32) (a2 : Int32) (x0_3 : Int32) (x0_4 : Int32) : Nat → Int32 := fo (fun i1 x_i1 => (if (pX7_isGangway (nI i1)) = 0 then (x_i1 ||| (0 : Int32)) else (if (pX7_of u w (nI i1) 0) < a2 then (x_i1 ||| (0 : Int32)) else (if (x_i1 &&& (pX7_bothOf u w (nI i1))) = 0 then (x_i1 ||| (0 : Int32)) else (x_i1 ||| (pX7_bothOf u w (nI i1))))))) x0_3
theorem pX7_comeTo_L18_s (u : (Nat → Nat → Int32)) (w : (Nat → Int32)) (a1 : Int32) (a2 : Int32) (x0_3 : Int32) (x0_4 : Int32) (i1 : Nat) : pX7_comeTo_L18 u w a1 a2 x0_3 x0_4 (i1 + 1) = (if (pX7_isGangway (nI i1)) = 0 then ((pX7_comeTo_L18 u w a1 a2 x0_3 x0_4 i1) ||| (0 : Int32)) else (if (pX7_of u w (nI i1) 0) < a2 then ((pX7_comeTo_L18 u w a1 a2 x0_3 x0_4 i1) ||| (0 : Int32)) else (if ((pX7_comeTo_L18 u w a1 a2 x0_3 x0_4 i1) &&& (pX7_bothOf u w (nI i1))) = 0 then ((pX7_comeTo_L18 u w a1 a2 x0_3 x0_4 i1) ||| (0 : Int32)) else ((pX7_comeTo_L18 u w a1 a2 x0_3 x0_4 i1) ||| (pX7_bothOf u w (nI i1)))))) := rfl
theorem pX7_comeTo_L18_0 (u : (Nat → Nat → Int32)) (w : (Nat → Int32)) (a1 : Int32) (a2 : Int32) (x0_3 : Int32) (x0_4 : Int32) : pX7_comeTo_L18 u w a1 a2 x0_3 x0_4 0 = x0_3 := rfl
def pX7_comeTo_L7 (u : (Nat → Nat → Int32)) (w : (Nat → Int32)) (a1 : Int32) (a2 : Int32) : Nat → Int32 → Int32 → Int32
  | 0, _, _ => (0)
  | k + 1, x0_3, x0_4 => (if x0_4 = 0 then x0_3 else (if (pX7_comeTo_L18 u w a1 a2 x0_3 x0_4 28) = x0_3 then (pX7_comeTo_L7 u w a1 a2 k (pX7_comeTo_L18 u w a1 a2 x0_3 x0_4 28) 0) else (pX7_comeTo_L7 u w a1 a2 k (pX7_comeTo_L18 u w a1 a2 x0_3 x0_4 28) 1)))
theorem pX7_comeTo_L7_s (u : (Nat → Nat → Int32)) (w : (Nat → Int32)) (a1 : Int32) (a2 : Int32) (k : Nat) (x0_3 : Int32) (x0_4 : Int32) : pX7_comeTo_L7 u w a1 a2 (k + 1) x0_3 x0_4 = (if x0_4 = 0 then x0_3 else (if (pX7_comeTo_L18 u w a1 a2 x0_3 x0_4 28) = x0_3 then (pX7_comeTo_L7 u w a1 a2 k (pX7_comeTo_L18 u w a1 a2 x0_3 x0_4 28) 0) else (pX7_comeTo_L7 u w a1 a2 k (pX7_comeTo_L18 u w a1 a2 x0_3 x0_4 28) 1))) := rfl
def pX7_comeTo (u : (Nat → Nat → Int32)) (w : (Nat → Int32)) (a1 : Int32) (a2 : Int32) : Int32 := (pX7_comeTo_L7 u w a1 a2 FU ((1 : Int32) <<< (a1 &&& 31)) 1)
theorem ct_sub (u : Nat → Nat → Int32) (w : Nat → Int32) (a1 a2 x3 x4 : Int32) (n : Nat) : SB x3 (pX7_comeTo_L18 u w a1 a2 x3 x4 n) := by
  induction n with
  | zero => exact SB_rf _
  | succ n ih =>
    rw [pX7_comeTo_L18_s]
    repeat' split
    all_goals exact SB_or _ ih
set_option maxHeartbeats 4000000 in
set_option maxRecDepth 100000 in
theorem kX7_comeTo (l : Launch) (D : va_G) (cyC cyI cyO : ClassId) (A : Nat → Nat) (u : (Nat → Nat → Int32)) (w : (Nat → Int32)) (a1 : Int32) (a2 : Int32) : RO l yX7_comeTo (Ty yX7_comeTo cX7_comeTo 8 (some .int)) ({ frames := 2, cells := 0, slots := 0, locals := 42 } : Room) D cyC cyI cyO (wM cyI A u w) [.ref (A 0), .int a1, .int a2] (pX7_comeTo u w a1 a2) := by
  refine Met.ofW (cc := cX7_comeTo) (maxL := 8) (ret := (some .int)) (by decide) rfl ?_
  intro p e s m args below meth cd s₁ B hml hv
  obtain ⟨rfl, hP, hK⟩ := hv
  have hx := B.exec
  have hb := B.bytes
  have hr := B.returns
  have hts : ∀ w ∈ TB, w.before ([.ref (A 0), .int a1, .int a2] : List Value).toArray s = true := fun w h => atoms_spec (ws := (Ty yX7_comeTo cX7_comeTo 8 (some .int))) B.pre w (List.mem_cons_of_mem _ h)
  have hown : s.vm.findClass RX7 = some m.cls := findClass_of_methodNamed B.named
  have hlocks := B.notSynchronized
  have hl := lv_entry ([.ref (A 0), .int a1, .int a2]) (n := 8) (Nat.le_of_ble_eq_true rfl)
  rw [lg_entry_eq]
  generalize (lg_sl ([.ref (A 0), .int a1, .int a2]) ++ List.replicate (8 - (lg_sl ([.ref (A 0), .int a1, .int a2])).length) Slot.unset).toArray = ls at hl ⊢
  have hl : lv_has ls 8 [(0, .ref (A 0)), (1, .int a1), (2, .int a2)] := hl
  refine lv_iconst (v := 1) hx hb dX7_comeTo_0 (by decide) ?_
  refine lv_iload_n hx hb dX7_comeTo_1 rfl (lv_at hl 1 rfl) ?_
  refine lv_ishl hx hb dX7_comeTo_2 ?_
  refine lv_istore_n (lv' := [(3, .int ((1 : Int32) <<< (a1 &&& 31))), (0, .ref (A 0)), (1, .int a1), (2, .int a2)]) hx hb dX7_comeTo_3 rfl hl (by decide) rfl (fun ls hl => ?_)
  refine lv_iconst (v := 1) hx hb dX7_comeTo_4 (by decide) ?_
  refine lv_istore (lv' := [(4, .int 1), (3, .int ((1 : Int32) <<< (a1 &&& 31))), (0, .ref (A 0)), (1, .int a1), (2, .int a2)]) hx hb dX7_comeTo_5 hl (by decide) rfl (fun ls hl => ?_)
  have key_7 : ∀ k : Nat, ∀ (x0_3 : Int32) (x0_4 : Int32), (if x0_4 = 0 then 0 else 1 + (4294967296 - tn x0_3)) < k → pX7_comeTo_L7 u w a1 a2 k x0_3 x0_4 = (pX7_comeTo u w a1 a2) → ∀ (ls : Array Slot), lv_has ls 8 [(0, .ref (A 0)), (1, .int a1), (2, .int a2), (3, .int x0_3), (4, .int x0_4)] → W p l e (headSpec (Ty yX7_comeTo cX7_comeTo 8 (some .int)) ({ frames := 2, cells := 0, slots := 0, locals := 42 } : Room)).room s m ([.ref (A 0), .int a1, .int a2] : List Value).toArray below meth cd s.heap [] 0 0 (MQ below (vp_Si (fun x => x = (pX7_comeTo u w a1 a2))) ([.ref (A 0), .int a1, .int a2] : List Value).toArray s 0 0 (fun _ => False)) (F0 m 7 ls []) := by
    intro k
    induction k with
    | zero =>
      intro x0_3 x0_4 hm_7 hN_7 ls hl
      exact absurd hm_7 (Nat.not_lt_zero _)
    | succ k ih_7 =>
      intro x0_3 x0_4 hm_7 hN_7 ls hl
      refine lv_iload hx hb dX7_comeTo_7 (lv_at hl 4 rfl) ?_
      refine lv_if_eq (tgt := 102) hx hb dX7_comeTo_9 (by decide) (fun c_1 => ?_) (fun c_1 => ?_)
      · refine lv_iload_n hx hb dX7_comeTo_102 rfl (lv_at hl 3 rfl) ?_
        have e9 : x0_3 = (pX7_comeTo u w a1 a2) := by rw [← hN_7, pX7_comeTo_L7_s] <;> simp only [if_pos c_1]
        exact W.iret (v := x0_3) hx hb hr (fun t ht hW => ⟨_, rfl, e9, ht⟩) (fun _ h => absurd h List.not_mem_nil) dX7_comeTo_103
      · refine lv_iload_n hx hb dX7_comeTo_12 rfl (lv_at hl 3 rfl) ?_
        refine lv_istore (lv' := [(5, .int x0_3), (0, .ref (A 0)), (1, .int a1), (2, .int a2), (3, .int x0_3), (4, .int x0_4)]) hx hb dX7_comeTo_13 hl (by decide) rfl (fun ls hl => ?_)
        refine lv_iconst (v := 0) hx hb dX7_comeTo_15 (by decide) ?_
        refine lv_istore (lv' := [(6, .int 0), (5, .int x0_3), (0, .ref (A 0)), (1, .int a1), (2, .int a2), (3, .int x0_3), (4, .int x0_4)]) hx hb dX7_comeTo_16 hl (by decide) rfl (fun ls hl => ?_)
        have key_18 : ∀ k i1 : Nat, i1 + k = 28 → ∀ (ls : Array Slot), lv_has ls 8 [(0, .ref (A 0)), (1, .int a1), (2, .int a2), (3, .int (pX7_comeTo_L18 u w a1 a2 x0_3 x0_4 i1)), (4, .int x0_4), (5, .int x0_3), (6, .int (nI i1))] → W p l e (headSpec (Ty yX7_comeTo cX7_comeTo 8 (some .int)) ({ frames := 2, cells := 0, slots := 0, locals := 42 } : Room)).room s m ([.ref (A 0), .int a1, .int a2] : List Value).toArray below meth cd s.heap [] 0 0 (MQ below (vp_Si (fun x => x = (pX7_comeTo u w a1 a2))) ([.ref (A 0), .int a1, .int a2] : List Value).toArray s 0 0 (fun _ => False)) (F0 m 18 ls []) := by
          intro k
          induction k with
          | zero =>
            intro i1 hi1 ls hl
            obtain rfl : i1 = 28 := hi1
            obtain ⟨z_2, hz_2⟩ : ∃ q, q = (pX7_comeTo_L18 u w a1 a2 x0_3 x0_4 28) := ⟨_, rfl⟩
            rw [← hz_2] at hl
            refine lv_iload hx hb dX7_comeTo_18 (lv_at hl 6 rfl) ?_
            refine lv_bipush (v := 28) hx hb dX7_comeTo_20 (by decide) ?_
            refine lv_icmp_ge (tgt := 86) hx hb dX7_comeTo_22 (by decide) (fun c_3 => ?_) (fun c_3 => absurd (le_of (C := 28) (N := 28) (by decide)) c_3)
            refine lv_iload_n hx hb dX7_comeTo_86 rfl (lv_at hl 3 rfl) ?_
            refine lv_iload hx hb dX7_comeTo_87 (lv_at hl 5 rfl) ?_
            refine lv_icmp_eq (tgt := 96) hx hb dX7_comeTo_89 (by decide) (fun c_4 => ?_) (fun c_4 => ?_)
            · refine lv_iconst (v := 0) hx hb dX7_comeTo_96 (by decide) ?_
              refine lv_istore (lv' := [(4, .int 0), (0, .ref (A 0)), (1, .int a1), (2, .int a2), (3, .int z_2), (5, .int x0_3), (6, .int (nI 28))]) hx hb dX7_comeTo_97 hl (by decide) rfl (fun ls hl => ?_)
              refine lv_goto (tgt := 7) hx hb dX7_comeTo_99 (by decide) ?_
              exact ih_7  z_2 0 (by rw [if_neg c_1] at hm_7; rw [if_pos rfl]; omega) (by rw [← hN_7, pX7_comeTo_L7_s] <;> simp only [← hz_2, if_neg c_1, if_pos c_4]) ls (lv_sub hl [1, 2, 3, 4, 0] rfl)
            · refine lv_iconst (v := 1) hx hb dX7_comeTo_92 (by decide) ?_
              refine lv_goto (tgt := 97) hx hb dX7_comeTo_93 (by decide) ?_
              refine lv_istore (lv' := [(4, .int 1), (0, .ref (A 0)), (1, .int a1), (2, .int a2), (3, .int z_2), (5, .int x0_3), (6, .int (nI 28))]) hx hb dX7_comeTo_97 hl (by decide) rfl (fun ls hl => ?_)
              refine lv_goto (tgt := 7) hx hb dX7_comeTo_99 (by decide) ?_
              exact ih_7  z_2 1 (by rw [if_neg c_1] at hm_7; rw [if_neg (by decide)]; have h9 := tn_lt (a := x0_3) (b := z_2) (by rw [hz_2]; exact ct_sub _ _ _ _ _ _ 28) c_4; have h8 := tn_ub z_2; omega) (by rw [← hN_7, pX7_comeTo_L7_s] <;> simp only [← hz_2, if_neg c_1, if_neg c_4]) ls (lv_sub hl [1, 2, 3, 4, 0] rfl)
          | succ k ih_18 =>
            intro i1 hi1 ls hl
            have hlt1 : i1 < 28 := by omega
            refine lv_iload hx hb dX7_comeTo_18 (lv_at hl 6 rfl) ?_
            refine lv_bipush (v := 28) hx hb dX7_comeTo_20 (by decide) ?_
            refine lv_icmp_ge (tgt := 86) hx hb dX7_comeTo_22 (by decide) (fun c_5 => absurd c_5 (nle_of (C := 28) (N := 28) (by decide) hlt1 (by decide))) (fun c_5 => ?_)
            refine lv_iload hx hb dX7_comeTo_25 (lv_at hl 6 rfl) ?_
            refine rS (As := [.int (nI i1)]) (rest := []) hx hb hml hown hts hl.1 (kX7_isGangway l D cyC cyI cyO (nI i1)) bS_X7_isGangway  wml_RX7_29 ⟨rfl, rfl⟩ ⟨Nat.le_of_ble_eq_true rfl, Nat.le_of_ble_eq_true rfl, Nat.zero_le _, Nat.zero_le _⟩ [] rfl hP hK rfl rfl (Nat.le_of_ble_eq_true rfl) dX7_comeTo_27 ?_
            refine lv_if_eq (tgt := 59) hx hb dX7_comeTo_30 (by decide) (fun c_6 => ?_) (fun c_6 => ?_)
            · refine lv_iconst (v := 0) hx hb dX7_comeTo_59 (by decide) ?_
              refine lv_istore (lv' := [(7, .int 0), (0, .ref (A 0)), (1, .int a1), (2, .int a2), (3, .int (pX7_comeTo_L18 u w a1 a2 x0_3 x0_4 i1)), (4, .int x0_4), (5, .int x0_3), (6, .int (nI i1))]) hx hb dX7_comeTo_60 hl (by decide) rfl (fun ls hl => ?_)
              refine lv_iload_n hx hb dX7_comeTo_62 rfl (lv_at hl 4 rfl) ?_
              refine lv_iload hx hb dX7_comeTo_63 (lv_at hl 0 rfl) ?_
              refine lv_if_eq (tgt := 77) hx hb dX7_comeTo_65 (by decide) (fun c_7 => ?_) (fun c_7 => absurd (by decide) c_7)
              refine lv_iconst (v := 0) hx hb dX7_comeTo_77 (by decide) ?_
              refine lv_ior hx hb dX7_comeTo_78 ?_
              refine lv_istore_n (lv' := [(3, .int ((pX7_comeTo_L18 u w a1 a2 x0_3 x0_4 i1) ||| (0 : Int32))), (7, .int 0), (0, .ref (A 0)), (1, .int a1), (2, .int a2), (4, .int x0_4), (5, .int x0_3), (6, .int (nI i1))]) hx hb dX7_comeTo_79 rfl hl (by decide) rfl (fun ls hl => ?_)
              refine lv_iinc (v := (nI (i1 + 1))) (lv' := [(6, .int (nI (i1 + 1))), (3, .int ((pX7_comeTo_L18 u w a1 a2 x0_3 x0_4 i1) ||| (0 : Int32))), (7, .int 0), (0, .ref (A 0)), (1, .int a1), (2, .int a2), (4, .int x0_4), (5, .int x0_3)]) hx hb dX7_comeTo_80 hl (k := 7) rfl (nI_succ i1).symm (by decide) rfl (fun ls hl => ?_)
              refine lv_goto (tgt := 18) hx hb dX7_comeTo_83 (by decide) ?_
              have e8 : pX7_comeTo_L18 u w a1 a2 x0_3 x0_4 (i1 + 1) = ((pX7_comeTo_L18 u w a1 a2 x0_3 x0_4 i1) ||| (0 : Int32)) := by rw [pX7_comeTo_L18_s] <;> simp only [if_neg c_1, if_pos c_6]
              exact ih_18 (i1 + 1) (by omega) ls (by rw [e8]; exact lv_sub hl [3, 4, 5, 1, 6, 7, 0] rfl)
            · refine lv_aload_n hx hb dX7_comeTo_33 rfl (lv_at hl 0 rfl) ?_
              refine lv_iload hx hb dX7_comeTo_34 (lv_at hl 6 rfl) ?_
              refine lv_iconst (v := 0) hx hb dX7_comeTo_36 (by decide) ?_
              refine rV (As := [.int (nI i1), .int 0]) (rest := []) hx hb hml hown hts hl.1 (kX7_of l D cyC cyI cyO A u w (nI i1) 0 (vp_in_nI (Nat.lt_of_lt_of_le hlt1 (by decide)) (by decide)) (vp_lit (by decide))) bV_X7_of  wml_RX7_52 ⟨rfl, rfl⟩ ⟨Nat.le_of_ble_eq_true rfl, Nat.le_of_ble_eq_true rfl, Nat.zero_le _, Nat.zero_le _⟩ [0, 1, 2, 3, 4, 5, 6] rfl hP hK 0 rfl rfl rfl rfl rfl (Nat.le_of_ble_eq_true rfl) dX7_comeTo_37 ?_
              refine lv_iload_n hx hb dX7_comeTo_40 rfl (lv_at hl 2 rfl) ?_
              refine lv_icmp_lt (tgt := 59) hx hb dX7_comeTo_41 (by decide) (fun c_8 => ?_) (fun c_8 => ?_)
              · refine lv_iconst (v := 0) hx hb dX7_comeTo_59 (by decide) ?_
                refine lv_istore (lv' := [(7, .int 0), (0, .ref (A 0)), (1, .int a1), (2, .int a2), (3, .int (pX7_comeTo_L18 u w a1 a2 x0_3 x0_4 i1)), (4, .int x0_4), (5, .int x0_3), (6, .int (nI i1))]) hx hb dX7_comeTo_60 hl (by decide) rfl (fun ls hl => ?_)
                refine lv_iload_n hx hb dX7_comeTo_62 rfl (lv_at hl 4 rfl) ?_
                refine lv_iload hx hb dX7_comeTo_63 (lv_at hl 0 rfl) ?_
                refine lv_if_eq (tgt := 77) hx hb dX7_comeTo_65 (by decide) (fun c_9 => ?_) (fun c_9 => absurd (by decide) c_9)
                refine lv_iconst (v := 0) hx hb dX7_comeTo_77 (by decide) ?_
                refine lv_ior hx hb dX7_comeTo_78 ?_
                refine lv_istore_n (lv' := [(3, .int ((pX7_comeTo_L18 u w a1 a2 x0_3 x0_4 i1) ||| (0 : Int32))), (7, .int 0), (0, .ref (A 0)), (1, .int a1), (2, .int a2), (4, .int x0_4), (5, .int x0_3), (6, .int (nI i1))]) hx hb dX7_comeTo_79 rfl hl (by decide) rfl (fun ls hl => ?_)
                refine lv_iinc (v := (nI (i1 + 1))) (lv' := [(6, .int (nI (i1 + 1))), (3, .int ((pX7_comeTo_L18 u w a1 a2 x0_3 x0_4 i1) ||| (0 : Int32))), (7, .int 0), (0, .ref (A 0)), (1, .int a1), (2, .int a2), (4, .int x0_4), (5, .int x0_3)]) hx hb dX7_comeTo_80 hl (k := 7) rfl (nI_succ i1).symm (by decide) rfl (fun ls hl => ?_)
                refine lv_goto (tgt := 18) hx hb dX7_comeTo_83 (by decide) ?_
                have e8 : pX7_comeTo_L18 u w a1 a2 x0_3 x0_4 (i1 + 1) = ((pX7_comeTo_L18 u w a1 a2 x0_3 x0_4 i1) ||| (0 : Int32)) := by rw [pX7_comeTo_L18_s] <;> simp only [if_neg c_1, if_neg c_6, if_pos c_8]
                exact ih_18 (i1 + 1) (by omega) ls (by rw [e8]; exact lv_sub hl [3, 4, 5, 1, 6, 7, 0] rfl)
              · refine lv_iload_n hx hb dX7_comeTo_44 rfl (lv_at hl 3 rfl) ?_
                refine lv_aload_n hx hb dX7_comeTo_45 rfl (lv_at hl 0 rfl) ?_
                refine lv_iload hx hb dX7_comeTo_46 (lv_at hl 6 rfl) ?_
                refine rV (As := [.int (nI i1)]) (rest := [.int (pX7_comeTo_L18 u w a1 a2 x0_3 x0_4 i1)]) hx hb hml hown hts hl.1 (kX7_bothOf l D cyC cyI cyO A u w (nI i1)) bV_X7_bothOf  wml_RX7_75 ⟨rfl, rfl⟩ ⟨Nat.le_of_ble_eq_true rfl, Nat.le_of_ble_eq_true rfl, Nat.zero_le _, Nat.zero_le _⟩ [0, 1, 2, 3, 4, 5, 6] rfl hP hK 0 rfl rfl rfl rfl rfl (Nat.le_of_ble_eq_true rfl) dX7_comeTo_48 ?_
                refine lv_iand hx hb dX7_comeTo_51 ?_
                refine lv_if_eq (tgt := 59) hx hb dX7_comeTo_52 (by decide) (fun c_10 => ?_) (fun c_10 => ?_)
                · refine lv_iconst (v := 0) hx hb dX7_comeTo_59 (by decide) ?_
                  refine lv_istore (lv' := [(7, .int 0), (0, .ref (A 0)), (1, .int a1), (2, .int a2), (3, .int (pX7_comeTo_L18 u w a1 a2 x0_3 x0_4 i1)), (4, .int x0_4), (5, .int x0_3), (6, .int (nI i1))]) hx hb dX7_comeTo_60 hl (by decide) rfl (fun ls hl => ?_)
                  refine lv_iload_n hx hb dX7_comeTo_62 rfl (lv_at hl 4 rfl) ?_
                  refine lv_iload hx hb dX7_comeTo_63 (lv_at hl 0 rfl) ?_
                  refine lv_if_eq (tgt := 77) hx hb dX7_comeTo_65 (by decide) (fun c_11 => ?_) (fun c_11 => absurd (by decide) c_11)
                  refine lv_iconst (v := 0) hx hb dX7_comeTo_77 (by decide) ?_
                  refine lv_ior hx hb dX7_comeTo_78 ?_
                  refine lv_istore_n (lv' := [(3, .int ((pX7_comeTo_L18 u w a1 a2 x0_3 x0_4 i1) ||| (0 : Int32))), (7, .int 0), (0, .ref (A 0)), (1, .int a1), (2, .int a2), (4, .int x0_4), (5, .int x0_3), (6, .int (nI i1))]) hx hb dX7_comeTo_79 rfl hl (by decide) rfl (fun ls hl => ?_)
                  refine lv_iinc (v := (nI (i1 + 1))) (lv' := [(6, .int (nI (i1 + 1))), (3, .int ((pX7_comeTo_L18 u w a1 a2 x0_3 x0_4 i1) ||| (0 : Int32))), (7, .int 0), (0, .ref (A 0)), (1, .int a1), (2, .int a2), (4, .int x0_4), (5, .int x0_3)]) hx hb dX7_comeTo_80 hl (k := 7) rfl (nI_succ i1).symm (by decide) rfl (fun ls hl => ?_)
                  refine lv_goto (tgt := 18) hx hb dX7_comeTo_83 (by decide) ?_
                  have e8 : pX7_comeTo_L18 u w a1 a2 x0_3 x0_4 (i1 + 1) = ((pX7_comeTo_L18 u w a1 a2 x0_3 x0_4 i1) ||| (0 : Int32)) := by rw [pX7_comeTo_L18_s] <;> simp only [if_neg c_1, if_neg c_6, if_neg c_8, if_pos c_10]
                  exact ih_18 (i1 + 1) (by omega) ls (by rw [e8]; exact lv_sub hl [3, 4, 5, 1, 6, 7, 0] rfl)
                · refine lv_iconst (v := 1) hx hb dX7_comeTo_55 (by decide) ?_
                  refine lv_goto (tgt := 60) hx hb dX7_comeTo_56 (by decide) ?_
                  refine lv_istore (lv' := [(7, .int 1), (0, .ref (A 0)), (1, .int a1), (2, .int a2), (3, .int (pX7_comeTo_L18 u w a1 a2 x0_3 x0_4 i1)), (4, .int x0_4), (5, .int x0_3), (6, .int (nI i1))]) hx hb dX7_comeTo_60 hl (by decide) rfl (fun ls hl => ?_)
                  refine lv_iload_n hx hb dX7_comeTo_62 rfl (lv_at hl 4 rfl) ?_
                  refine lv_iload hx hb dX7_comeTo_63 (lv_at hl 0 rfl) ?_
                  refine lv_if_eq (tgt := 77) hx hb dX7_comeTo_65 (by decide) (fun c_12 => absurd c_12 (by decide)) (fun c_12 => ?_)
                  refine lv_aload_n hx hb dX7_comeTo_68 rfl (lv_at hl 1 rfl) ?_
                  refine lv_iload hx hb dX7_comeTo_69 (lv_at hl 7 rfl) ?_
                  refine rV (As := [.int (nI i1)]) (rest := [.int (pX7_comeTo_L18 u w a1 a2 x0_3 x0_4 i1)]) hx hb hml hown hts hl.1 (kX7_bothOf l D cyC cyI cyO A u w (nI i1)) bV_X7_bothOf  wml_RX7_75 ⟨rfl, rfl⟩ ⟨Nat.le_of_ble_eq_true rfl, Nat.le_of_ble_eq_true rfl, Nat.zero_le _, Nat.zero_le _⟩ [0, 1, 2, 3, 4, 5, 6] rfl hP hK 0 rfl rfl rfl rfl rfl (Nat.le_of_ble_eq_true rfl) dX7_comeTo_71 ?_
                  refine lv_goto (tgt := 78) hx hb dX7_comeTo_74 (by decide) ?_
                  refine lv_ior hx hb dX7_comeTo_78 ?_
                  refine lv_istore_n (lv' := [(3, .int ((pX7_comeTo_L18 u w a1 a2 x0_3 x0_4 i1) ||| (pX7_bothOf u w (nI i1)))), (7, .int 1), (0, .ref (A 0)), (1, .int a1), (2, .int a2), (4, .int x0_4), (5, .int x0_3), (6, .int (nI i1))]) hx hb dX7_comeTo_79 rfl hl (by decide) rfl (fun ls hl => ?_)
                  refine lv_iinc (v := (nI (i1 + 1))) (lv' := [(6, .int (nI (i1 + 1))), (3, .int ((pX7_comeTo_L18 u w a1 a2 x0_3 x0_4 i1) ||| (pX7_bothOf u w (nI i1)))), (7, .int 1), (0, .ref (A 0)), (1, .int a1), (2, .int a2), (4, .int x0_4), (5, .int x0_3)]) hx hb dX7_comeTo_80 hl (k := 7) rfl (nI_succ i1).symm (by decide) rfl (fun ls hl => ?_)
                  refine lv_goto (tgt := 18) hx hb dX7_comeTo_83 (by decide) ?_
                  have e8 : pX7_comeTo_L18 u w a1 a2 x0_3 x0_4 (i1 + 1) = ((pX7_comeTo_L18 u w a1 a2 x0_3 x0_4 i1) ||| (pX7_bothOf u w (nI i1))) := by rw [pX7_comeTo_L18_s] <;> simp only [if_neg c_1, if_neg c_6, if_neg c_8, if_neg c_10]
                  exact ih_18 (i1 + 1) (by omega) ls (by rw [e8]; exact lv_sub hl [3, 4, 5, 1, 6, 7, 0] rfl)
        exact key_18 28 0 (Nat.zero_add 28) ls (lv_sub hl [2, 3, 4, 5, 6, 1, 0] rfl)
  exact key_7 FU ((1 : Int32) <<< (a1 &&& 31)) 1 (by rw [if_neg (by decide)]; unfold FU; omega) rfl ls (lv_sub hl [2, 3, 4, 1, 0] rfl)
theorem bV_X7_comeTo : BV RX7 yX7_comeTo cX7_comeTo 8 (some .int) 2 := ⟨wcd_X7_comeTo, wim_X7_comeTo, wse_X7_comeTo, win_RX7, by decide +kernel⟩
def pX7_stepsOf_L12 (u : (Nat → Nat → Int32)) (w : (Nat → Int32)) (a1 : Int32) (a2 : Int32) : Nat → Int32 → Int32 → Int32
  | 0, _, _ => (0)
  | k + 1, x0_3, x0_4 => (if (pX7_isIn x0_3 a2) = 0 then (if (pX7_furtherFrom u w a1 x0_3) = x0_3 then (-4) else (pX7_stepsOf_L12 u w a1 a2 k (pX7_furtherFrom u w a1 x0_3) (x0_4 + (1 : Int32)))) else x0_4)
theorem pX7_stepsOf_L12_s (u : (Nat → Nat → Int32)) (w : (Nat → Int32)) (a1 : Int32) (a2 : Int32) (k : Nat) (x0_3 : Int32) (x0_4 : Int32) : pX7_stepsOf_L12 u w a1 a2 (k + 1) x0_3 x0_4 = (if (pX7_isIn x0_3 a2) = 0 then (if (pX7_furtherFrom u w a1 x0_3) = x0_3 then (-4) else (pX7_stepsOf_L12 u w a1 a2 k (pX7_furtherFrom u w a1 x0_3) (x0_4 + (1 : Int32)))) else x0_4) := rfl
def pX7_stepsOf (u : (Nat → Nat → Int32)) (w : (Nat → Int32)) (a1 : Int32) (a2 : Int32) : Int32 := (pX7_stepsOf_L12 u w a1 a2 FU ((1 : Int32) <<< ((pX7_ofOwner u w a1 3) &&& 31)) 0)
set_option maxHeartbeats 4000000 in
set_option maxRecDepth 100000 in
theorem kX7_stepsOf (l : Launch) (D : va_G) (cyC cyI cyO : ClassId) (A : Nat → Nat) (u : (Nat → Nat → Int32)) (w : (Nat → Int32)) (a1 : Int32) (a2 : Int32) (ho : vp_in a1 4) : RO l yX7_stepsOf (Ty yX7_stepsOf cX7_stepsOf 5 (some .int)) ({ frames := 4, cells := 0, slots := 0, locals := 92 } : Room) D cyC cyI cyO (wM cyI A u w) [.ref (A 0), .int a1, .int a2] (pX7_stepsOf u w a1 a2) := by
  refine Met.ofW (cc := cX7_stepsOf) (maxL := 5) (ret := (some .int)) (by decide) rfl ?_
  intro p e s m args below meth cd s₁ B hml hv
  obtain ⟨rfl, hP, hK⟩ := hv
  have hx := B.exec
  have hb := B.bytes
  have hr := B.returns
  have hts : ∀ w ∈ TB, w.before ([.ref (A 0), .int a1, .int a2] : List Value).toArray s = true := fun w h => atoms_spec (ws := (Ty yX7_stepsOf cX7_stepsOf 5 (some .int))) B.pre w (List.mem_cons_of_mem _ h)
  have hown : s.vm.findClass RX7 = some m.cls := findClass_of_methodNamed B.named
  have hlocks := B.notSynchronized
  have hl := lv_entry ([.ref (A 0), .int a1, .int a2]) (n := 5) (Nat.le_of_ble_eq_true rfl)
  rw [lg_entry_eq]
  generalize (lg_sl ([.ref (A 0), .int a1, .int a2]) ++ List.replicate (5 - (lg_sl ([.ref (A 0), .int a1, .int a2])).length) Slot.unset).toArray = ls at hl ⊢
  have hl : lv_has ls 5 [(0, .ref (A 0)), (1, .int a1), (2, .int a2)] := hl
  refine lv_iconst (v := 1) hx hb dX7_stepsOf_0 (by decide) ?_
  refine lv_aload_n hx hb dX7_stepsOf_1 rfl (lv_at hl 0 rfl) ?_
  refine lv_iload_n hx hb dX7_stepsOf_2 rfl (lv_at hl 1 rfl) ?_
  refine lv_iconst (v := 3) hx hb dX7_stepsOf_3 (by decide) ?_
  refine rV (As := [.int a1, .int 3]) (rest := [.int 1]) hx hb hml hown hts hl.1 (kX7_ofOwner l D cyC cyI cyO A u w a1 3 ho (vp_lit (by decide))) bV_X7_ofOwner  wml_RX7_72 ⟨rfl, rfl⟩ ⟨Nat.le_of_ble_eq_true rfl, Nat.le_of_ble_eq_true rfl, Nat.zero_le _, Nat.zero_le _⟩ [0, 1, 2, 3, 4, 5, 6] rfl hP hK 0 rfl rfl rfl rfl rfl (Nat.le_of_ble_eq_true rfl) dX7_stepsOf_4 ?_
  refine lv_ishl hx hb dX7_stepsOf_7 ?_
  refine lv_istore_n (lv' := [(3, .int ((1 : Int32) <<< ((pX7_ofOwner u w a1 3) &&& 31))), (0, .ref (A 0)), (1, .int a1), (2, .int a2)]) hx hb dX7_stepsOf_8 rfl hl (by decide) rfl (fun ls hl => ?_)
  refine lv_iconst (v := 0) hx hb dX7_stepsOf_9 (by decide) ?_
  refine lv_istore (lv' := [(4, .int 0), (3, .int ((1 : Int32) <<< ((pX7_ofOwner u w a1 3) &&& 31))), (0, .ref (A 0)), (1, .int a1), (2, .int a2)]) hx hb dX7_stepsOf_10 hl (by decide) rfl (fun ls hl => ?_)
  have key_12 : ∀ k : Nat, ∀ (x0_3 : Int32) (x0_4 : Int32), (4294967296 - tn x0_3) < k → pX7_stepsOf_L12 u w a1 a2 k x0_3 x0_4 = (pX7_stepsOf u w a1 a2) → ∀ (ls : Array Slot), lv_has ls 5 [(0, .ref (A 0)), (1, .int a1), (2, .int a2), (3, .int x0_3), (4, .int x0_4)] → W p l e (headSpec (Ty yX7_stepsOf cX7_stepsOf 5 (some .int)) ({ frames := 4, cells := 0, slots := 0, locals := 92 } : Room)).room s m ([.ref (A 0), .int a1, .int a2] : List Value).toArray below meth cd s.heap [] 0 0 (MQ below (vp_Si (fun x => x = (pX7_stepsOf u w a1 a2))) ([.ref (A 0), .int a1, .int a2] : List Value).toArray s 0 0 (fun _ => False)) (F0 m 12 ls []) := by
    intro k
    induction k with
    | zero =>
      intro x0_3 x0_4 hm_12 hN_12 ls hl
      exact absurd hm_12 (Nat.not_lt_zero _)
    | succ k ih_12 =>
      intro x0_3 x0_4 hm_12 hN_12 ls hl
      refine lv_iload_n hx hb dX7_stepsOf_12 rfl (lv_at hl 3 rfl) ?_
      refine lv_iload_n hx hb dX7_stepsOf_13 rfl (lv_at hl 2 rfl) ?_
      refine rS (As := [.int x0_3, .int a2]) (rest := []) hx hb hml hown hts hl.1 (kX7_isIn l D cyC cyI cyO x0_3 a2) bS_X7_isIn  wml_RX7_62 ⟨rfl, rfl⟩ ⟨Nat.le_of_ble_eq_true rfl, Nat.le_of_ble_eq_true rfl, Nat.zero_le _, Nat.zero_le _⟩ [] rfl hP hK rfl rfl (Nat.le_of_ble_eq_true rfl) dX7_stepsOf_14 ?_
      refine lv_if_ne (tgt := 43) hx hb dX7_stepsOf_17 (by decide) (fun c_1 => ?_) (fun c_1 => ?_)
      · refine lv_iload_n hx hb dX7_stepsOf_43 rfl (lv_at hl 3 rfl) ?_
        refine lv_iload_n hx hb dX7_stepsOf_44 rfl (lv_at hl 2 rfl) ?_
        refine rS (As := [.int x0_3, .int a2]) (rest := []) hx hb hml hown hts hl.1 (kX7_isIn l D cyC cyI cyO x0_3 a2) bS_X7_isIn  wml_RX7_62 ⟨rfl, rfl⟩ ⟨Nat.le_of_ble_eq_true rfl, Nat.le_of_ble_eq_true rfl, Nat.zero_le _, Nat.zero_le _⟩ [] rfl hP hK rfl rfl (Nat.le_of_ble_eq_true rfl) dX7_stepsOf_45 ?_
        refine lv_if_eq (tgt := 56) hx hb dX7_stepsOf_48 (by decide) (fun c_2 => absurd c_2 c_1) (fun c_2 => ?_)
        refine lv_iload hx hb dX7_stepsOf_51 (lv_at hl 4 rfl) ?_
        refine lv_goto (tgt := 58) hx hb dX7_stepsOf_53 (by decide) ?_
        have e9 : x0_4 = (pX7_stepsOf u w a1 a2) := by rw [← hN_12, pX7_stepsOf_L12_s] <;> simp only [if_neg c_1]
        exact W.iret (v := x0_4) hx hb hr (fun t ht hW => ⟨_, rfl, e9, ht⟩) (fun _ h => absurd h List.not_mem_nil) dX7_stepsOf_58
      · refine lv_aload_n hx hb dX7_stepsOf_20 rfl (lv_at hl 0 rfl) ?_
        refine lv_iload_n hx hb dX7_stepsOf_21 rfl (lv_at hl 1 rfl) ?_
        refine lv_iload_n hx hb dX7_stepsOf_22 rfl (lv_at hl 3 rfl) ?_
        refine rV (As := [.int a1, .int x0_3]) (rest := []) hx hb hml hown hts hl.1 (kX7_furtherFrom l D cyC cyI cyO A u w a1 x0_3 ho) bV_X7_furtherFrom  wml_RX7_220 ⟨rfl, rfl⟩ ⟨Nat.le_of_ble_eq_true rfl, Nat.le_of_ble_eq_true rfl, Nat.zero_le _, Nat.zero_le _⟩ [0, 1, 2, 3, 4, 5, 6] rfl hP hK 0 rfl rfl rfl rfl rfl (Nat.le_of_ble_eq_true rfl) dX7_stepsOf_23 ?_
        refine lv_iload_n hx hb dX7_stepsOf_26 rfl (lv_at hl 3 rfl) ?_
        refine lv_icmp_eq (tgt := 43) hx hb dX7_stepsOf_27 (by decide) (fun c_3 => ?_) (fun c_3 => ?_)
        · refine lv_iload_n hx hb dX7_stepsOf_43 rfl (lv_at hl 3 rfl) ?_
          refine lv_iload_n hx hb dX7_stepsOf_44 rfl (lv_at hl 2 rfl) ?_
          refine rS (As := [.int x0_3, .int a2]) (rest := []) hx hb hml hown hts hl.1 (kX7_isIn l D cyC cyI cyO x0_3 a2) bS_X7_isIn  wml_RX7_62 ⟨rfl, rfl⟩ ⟨Nat.le_of_ble_eq_true rfl, Nat.le_of_ble_eq_true rfl, Nat.zero_le _, Nat.zero_le _⟩ [] rfl hP hK rfl rfl (Nat.le_of_ble_eq_true rfl) dX7_stepsOf_45 ?_
          refine lv_if_eq (tgt := 56) hx hb dX7_stepsOf_48 (by decide) (fun c_4 => ?_) (fun c_4 => absurd c_1 c_4)
          refine lv_bipush (v := (-4)) hx hb dX7_stepsOf_56 (by decide) ?_
          have e9 : (-4) = (pX7_stepsOf u w a1 a2) := by rw [← hN_12, pX7_stepsOf_L12_s] <;> simp only [if_pos c_1, if_pos c_3]
          exact W.iret (v := (-4)) hx hb hr (fun t ht hW => ⟨_, rfl, e9, ht⟩) (fun _ h => absurd h List.not_mem_nil) dX7_stepsOf_58
        · refine lv_aload_n hx hb dX7_stepsOf_30 rfl (lv_at hl 0 rfl) ?_
          refine lv_iload_n hx hb dX7_stepsOf_31 rfl (lv_at hl 1 rfl) ?_
          refine lv_iload_n hx hb dX7_stepsOf_32 rfl (lv_at hl 3 rfl) ?_
          refine rV (As := [.int a1, .int x0_3]) (rest := []) hx hb hml hown hts hl.1 (kX7_furtherFrom l D cyC cyI cyO A u w a1 x0_3 ho) bV_X7_furtherFrom  wml_RX7_220 ⟨rfl, rfl⟩ ⟨Nat.le_of_ble_eq_true rfl, Nat.le_of_ble_eq_true rfl, Nat.zero_le _, Nat.zero_le _⟩ [0, 1, 2, 3, 4, 5, 6] rfl hP hK 0 rfl rfl rfl rfl rfl (Nat.le_of_ble_eq_true rfl) dX7_stepsOf_33 ?_
          refine lv_istore_n (lv' := [(3, .int (pX7_furtherFrom u w a1 x0_3)), (0, .ref (A 0)), (1, .int a1), (2, .int a2), (4, .int x0_4)]) hx hb dX7_stepsOf_36 rfl hl (by decide) rfl (fun ls hl => ?_)
          refine lv_iinc (v := (x0_4 + (1 : Int32))) (lv' := [(4, .int (x0_4 + (1 : Int32))), (3, .int (pX7_furtherFrom u w a1 x0_3)), (0, .ref (A 0)), (1, .int a1), (2, .int a2)]) hx hb dX7_stepsOf_37 hl (k := 4) rfl rfl (by decide) rfl (fun ls hl => ?_)
          refine lv_goto (tgt := 12) hx hb dX7_stepsOf_40 (by decide) ?_
          exact ih_12  (pX7_furtherFrom u w a1 x0_3) (x0_4 + (1 : Int32)) (by have h9 := tn_lt (ff_sub u w a1 x0_3) c_3; have h8 := tn_ub (pX7_furtherFrom u w a1 x0_3); omega) (by rw [← hN_12, pX7_stepsOf_L12_s] <;> simp only [if_pos c_1, if_neg c_3]) ls (lv_sub hl [2, 3, 4, 1, 0] rfl)
  exact key_12 FU ((1 : Int32) <<< ((pX7_ofOwner u w a1 3) &&& 31)) 0 (by unfold FU; omega) rfl ls (lv_sub hl [2, 3, 4, 1, 0] rfl)
theorem bV_X7_stepsOf : BV RX7 yX7_stepsOf cX7_stepsOf 5 (some .int) 2 := ⟨wcd_X7_stepsOf, wim_X7_stepsOf, wse_X7_stepsOf, win_RX7, by decide +kernel⟩
def pX7_strengthOf_L6 (u : (Nat → Nat → Int32)) (w : (Nat → Int32)) (a1 : Int32) (a2 : Int32) : Nat → Int32 := fo (fun i x_i => (if (pX7_isIn (pX7_comeTo u w a1 (nI (i + 1))) a2) = 0 then x_i else (nI (i + 1)))) (-4)
theorem pX7_strengthOf_L6_s (u : (Nat → Nat → Int32)) (w : (Nat → Int32)) (a1 : Int32) (a2 : Int32) (i : Nat) : pX7_strengthOf_L6 u w a1 a2 (i + 1) = (if (pX7_isIn (pX7_comeTo u w a1 (nI (i + 1))) a2) = 0 then (pX7_strengthOf_L6 u w a1 a2 i) else (nI (i + 1))) := rfl
theorem pX7_strengthOf_L6_0 (u : (Nat → Nat → Int32)) (w : (Nat → Int32)) (a1 : Int32) (a2 : Int32) : pX7_strengthOf_L6 u w a1 a2 0 = (-4) := rfl
def pX7_strengthOf (u : (Nat → Nat → Int32)) (w : (Nat → Int32)) (a1 : Int32) (a2 : Int32) : Int32 := (if a1 = a2 then 10 else (pX7_strengthOf_L6 u w a1 a2 9))
set_option maxHeartbeats 4000000 in
set_option maxRecDepth 100000 in
theorem kX7_strengthOf (l : Launch) (D : va_G) (cyC cyI cyO : ClassId) (A : Nat → Nat) (u : (Nat → Nat → Int32)) (w : (Nat → Int32)) (a1 : Int32) (a2 : Int32) : RO l yX7_strengthOf (Ty yX7_strengthOf cX7_strengthOf 5 (some .int)) ({ frames := 3, cells := 0, slots := 0, locals := 69 } : Room) D cyC cyI cyO (wM cyI A u w) [.ref (A 0), .int a1, .int a2] (pX7_strengthOf u w a1 a2) := by
  refine Met.ofW (cc := cX7_strengthOf) (maxL := 5) (ret := (some .int)) (by decide) rfl ?_
  intro p e s m args below meth cd s₁ B hml hv
  obtain ⟨rfl, hP, hK⟩ := hv
  have hx := B.exec
  have hb := B.bytes
  have hr := B.returns
  have hts : ∀ w ∈ TB, w.before ([.ref (A 0), .int a1, .int a2] : List Value).toArray s = true := fun w h => atoms_spec (ws := (Ty yX7_strengthOf cX7_strengthOf 5 (some .int))) B.pre w (List.mem_cons_of_mem _ h)
  have hown : s.vm.findClass RX7 = some m.cls := findClass_of_methodNamed B.named
  have hlocks := B.notSynchronized
  have hl := lv_entry ([.ref (A 0), .int a1, .int a2]) (n := 5) (Nat.le_of_ble_eq_true rfl)
  rw [lg_entry_eq]
  generalize (lg_sl ([.ref (A 0), .int a1, .int a2]) ++ List.replicate (5 - (lg_sl ([.ref (A 0), .int a1, .int a2])).length) Slot.unset).toArray = ls at hl ⊢
  have hl : lv_has ls 5 [(0, .ref (A 0)), (1, .int a1), (2, .int a2)] := hl
  refine lv_bipush (v := (-4)) hx hb dX7_strengthOf_0 (by decide) ?_
  refine lv_istore_n (lv' := [(3, .int (-4)), (0, .ref (A 0)), (1, .int a1), (2, .int a2)]) hx hb dX7_strengthOf_2 rfl hl (by decide) rfl (fun ls hl => ?_)
  refine lv_iconst (v := 1) hx hb dX7_strengthOf_3 (by decide) ?_
  refine lv_istore (lv' := [(4, .int 1), (3, .int (-4)), (0, .ref (A 0)), (1, .int a1), (2, .int a2)]) hx hb dX7_strengthOf_4 hl (by decide) rfl (fun ls hl => ?_)
  have key_6 : ∀ k i : Nat, i + k = 9 → ∀ (ls : Array Slot), lv_has ls 5 [(0, .ref (A 0)), (1, .int a1), (2, .int a2), (3, .int (pX7_strengthOf_L6 u w a1 a2 i)), (4, .int (nI (i + 1)))] → W p l e (headSpec (Ty yX7_strengthOf cX7_strengthOf 5 (some .int)) ({ frames := 3, cells := 0, slots := 0, locals := 69 } : Room)).room s m ([.ref (A 0), .int a1, .int a2] : List Value).toArray below meth cd s.heap [] 0 0 (MQ below (vp_Si (fun x => x = (pX7_strengthOf u w a1 a2))) ([.ref (A 0), .int a1, .int a2] : List Value).toArray s 0 0 (fun _ => False)) (F0 m 6 ls []) := by
    intro k
    induction k with
    | zero =>
      intro i hi ls hl
      obtain rfl : i = 9 := hi
      obtain ⟨z_1, hz_1⟩ : ∃ q, q = (pX7_strengthOf_L6 u w a1 a2 9) := ⟨_, rfl⟩
      rw [← hz_1] at hl
      refine lv_iload hx hb dX7_strengthOf_6 (lv_at hl 4 rfl) ?_
      refine lv_bipush (v := 10) hx hb dX7_strengthOf_8 (by decide) ?_
      refine lv_icmp_ge (tgt := 40) hx hb dX7_strengthOf_10 (by decide) (fun c_2 => ?_) (fun c_2 => absurd (le_of (C := 10) (N := 9 + 1) (by decide)) c_2)
      refine lv_iload_n hx hb dX7_strengthOf_40 rfl (lv_at hl 1 rfl) ?_
      refine lv_iload_n hx hb dX7_strengthOf_41 rfl (lv_at hl 2 rfl) ?_
      refine lv_icmp_ne (tgt := 50) hx hb dX7_strengthOf_42 (by decide) (fun c_3 => ?_) (fun c_3 => ?_)
      · refine lv_iload_n hx hb dX7_strengthOf_50 rfl (lv_at hl 3 rfl) ?_
        have e9 : z_1 = (pX7_strengthOf u w a1 a2) := by simp only [pX7_strengthOf, ← hz_1, if_neg c_3]
        exact W.iret (v := z_1) hx hb hr (fun t ht hW => ⟨_, rfl, e9, ht⟩) (fun _ h => absurd h List.not_mem_nil) dX7_strengthOf_51
      · refine lv_bipush (v := 10) hx hb dX7_strengthOf_45 (by decide) ?_
        refine lv_goto (tgt := 51) hx hb dX7_strengthOf_47 (by decide) ?_
        have e9 : 10 = (pX7_strengthOf u w a1 a2) := by simp only [pX7_strengthOf, ← hz_1, if_pos c_3]
        exact W.iret (v := 10) hx hb hr (fun t ht hW => ⟨_, rfl, e9, ht⟩) (fun _ h => absurd h List.not_mem_nil) dX7_strengthOf_51
    | succ k ih_6 =>
      intro i hi ls hl
      have hlt : i < 9 := by omega
      refine lv_iload hx hb dX7_strengthOf_6 (lv_at hl 4 rfl) ?_
      refine lv_bipush (v := 10) hx hb dX7_strengthOf_8 (by decide) ?_
      refine lv_icmp_ge (tgt := 40) hx hb dX7_strengthOf_10 (by decide) (fun c_4 => absurd c_4 (nle_of (C := 10) (N := 10) (by decide) (by omega) (by decide))) (fun c_4 => ?_)
      refine lv_aload_n hx hb dX7_strengthOf_13 rfl (lv_at hl 0 rfl) ?_
      refine lv_iload_n hx hb dX7_strengthOf_14 rfl (lv_at hl 1 rfl) ?_
      refine lv_iload hx hb dX7_strengthOf_15 (lv_at hl 4 rfl) ?_
      refine rV (As := [.int a1, .int (nI (i + 1))]) (rest := []) hx hb hml hown hts hl.1 (kX7_comeTo l D cyC cyI cyO A u w a1 (nI (i + 1))) bV_X7_comeTo  wml_RX7_204 ⟨rfl, rfl⟩ ⟨Nat.le_of_ble_eq_true rfl, Nat.le_of_ble_eq_true rfl, Nat.zero_le _, Nat.zero_le _⟩ [0, 1, 2, 3, 4, 5, 6] rfl hP hK 0 rfl rfl rfl rfl rfl (Nat.le_of_ble_eq_true rfl) dX7_strengthOf_17 ?_
      refine lv_iload_n hx hb dX7_strengthOf_20 rfl (lv_at hl 2 rfl) ?_
      refine rS (As := [.int (pX7_comeTo u w a1 (nI (i + 1))), .int a2]) (rest := []) hx hb hml hown hts hl.1 (kX7_isIn l D cyC cyI cyO (pX7_comeTo u w a1 (nI (i + 1))) a2) bS_X7_isIn  wml_RX7_62 ⟨rfl, rfl⟩ ⟨Nat.le_of_ble_eq_true rfl, Nat.le_of_ble_eq_true rfl, Nat.zero_le _, Nat.zero_le _⟩ [] rfl hP hK rfl rfl (Nat.le_of_ble_eq_true rfl) dX7_strengthOf_21 ?_
      refine lv_if_eq (tgt := 32) hx hb dX7_strengthOf_24 (by decide) (fun c_5 => ?_) (fun c_5 => ?_)
      · refine lv_iload_n hx hb dX7_strengthOf_32 rfl (lv_at hl 3 rfl) ?_
        refine lv_istore_n (lv' := [(3, .int (pX7_strengthOf_L6 u w a1 a2 i)), (0, .ref (A 0)), (1, .int a1), (2, .int a2), (4, .int (nI (i + 1)))]) hx hb dX7_strengthOf_33 rfl hl (by decide) rfl (fun ls hl => ?_)
        refine lv_iinc (v := (nI (i + 1 + 1))) (lv' := [(4, .int (nI (i + 1 + 1))), (3, .int (pX7_strengthOf_L6 u w a1 a2 i)), (0, .ref (A 0)), (1, .int a1), (2, .int a2)]) hx hb dX7_strengthOf_34 hl (k := 4) rfl (nI_succ (i + 1)).symm (by decide) rfl (fun ls hl => ?_)
        refine lv_goto (tgt := 6) hx hb dX7_strengthOf_37 (by decide) ?_
        have e8 : pX7_strengthOf_L6 u w a1 a2 (i + 1) = (pX7_strengthOf_L6 u w a1 a2 i) := by rw [pX7_strengthOf_L6_s] <;> simp only [if_pos c_5]
        exact ih_6 (i + 1) (by omega) ls (by rw [e8]; exact lv_sub hl [2, 3, 4, 1, 0] rfl)
      · refine lv_iload hx hb dX7_strengthOf_27 (lv_at hl 4 rfl) ?_
        refine lv_goto (tgt := 33) hx hb dX7_strengthOf_29 (by decide) ?_
        refine lv_istore_n (lv' := [(3, .int (nI (i + 1))), (0, .ref (A 0)), (1, .int a1), (2, .int a2), (4, .int (nI (i + 1)))]) hx hb dX7_strengthOf_33 rfl hl (by decide) rfl (fun ls hl => ?_)
        refine lv_iinc (v := (nI (i + 1 + 1))) (lv' := [(4, .int (nI (i + 1 + 1))), (3, .int (nI (i + 1))), (0, .ref (A 0)), (1, .int a1), (2, .int a2)]) hx hb dX7_strengthOf_34 hl (k := 4) rfl (nI_succ (i + 1)).symm (by decide) rfl (fun ls hl => ?_)
        refine lv_goto (tgt := 6) hx hb dX7_strengthOf_37 (by decide) ?_
        have e8 : pX7_strengthOf_L6 u w a1 a2 (i + 1) = (nI (i + 1)) := by rw [pX7_strengthOf_L6_s] <;> simp only [if_neg c_5]
        exact ih_6 (i + 1) (by omega) ls (by rw [e8]; exact lv_sub hl [2, 3, 4, 1, 0] rfl)
  exact key_6 9 0 (Nat.zero_add 9) ls (lv_sub hl [2, 3, 4, 1, 0] rfl)
theorem bV_X7_strengthOf : BV RX7 yX7_strengthOf cX7_strengthOf 5 (some .int) 2 := ⟨wcd_X7_strengthOf, wim_X7_strengthOf, wse_X7_strengthOf, win_RX7, by decide +kernel⟩
