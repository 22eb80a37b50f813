/-! ===== the bundle of facts that holds asks for ===== -/
section FH
variable {B : Nat} {u : Nat → Nat → Int32} {w : Nat → Int32} {k o r : Nat}
theorem N_ls8 : ∀ i, i < 28 → gw i = true → (16 ≤ (nI i) → pX4_lesserRoof (nI i) = ((nI i) - (16 : Int32)) ∧ pX4_greaterRoof (nI i) = ((nI i) - (12 : Int32))) ∧ (¬ 16 ≤ (nI i) → pX4_lesserRoof (nI i) = nI i ∧ pX4_greaterRoof (nI i) = ((nI i) + (1 : Int32))) := by decide +kernel
theorem nn {n : Nat} (hn : n < 1000000) : ¬ nI n < 0 := nI_pos (by omega)
theorem ng {n m : Nat} (hm : m < n) (hn : n < 1000000) : ¬ nI n ≤ nI m := nI_ge hm (by omega)
theorem F_holds (H : CI B u w) (hB : B < 1000000) (rt : Nat → Int32) (sg : Nat → Nat → Int32) (pw : Nat → Int32) (rd : Nat → Int32) (h : Nat → (Nat → Nat → Int32) × (Nat → Int32)) (r0 : Nat) (v : Nat → Int32) (tu : Nat → Nat → Int32) (tw : Nat → Int32) (su : Nat → Nat → Int32) (sw : Nat → Int32) (g : Nat → Nat → Int32) : HF_L_holds rt sg pw rd u w h r0 v tu tw su sw g := by
  obtain ⟨t, f, ht, hf, h16, h17, h15⟩ := H.2.2.1
  obtain ⟨m9, m10, ⟨d, hd, h11⟩, ⟨q, hq, h12⟩, ⟨x13, hx13, h13⟩, ⟨x14, hx14, h14⟩, ⟨x18, hx18, h18⟩⟩ := H.2.2.2
  have a124 := h_124 (rt := rt) (sg := sg) (pw := pw) (rd := rd) (h := h) (r := r0) (v := v) (tu := tu) (tw := tw) (su := su) (sw := sw) (g := g) H 28 (Nat.le_refl _)
  obtain ⟨b1_, b2_, b3_, b4_, b5_⟩ := a124
  obtain ⟨c1_, c2_, c3_⟩ := h_499 (rt := rt) (sg := sg) (pw := pw) (rd := rd) (u := u) (w := w) (h := h) (r := r0) (v := v) (tu := tu) (tw := tw) (su := su) (sw := sw) (g := g) 16 (Nat.le_refl _)
  have m11 : M16 (pX0_smokeBlown u w (w 11)) := by rw [h11]; exact smoke16 hd hq h12
  have l29 := ct29 (ln u)
  have k29 := ct29 (cl u)
  have dv : ¬ nI (fb_ct (ln u) 28) = 0 → _ := fun z => T_dv _ k29 _ l29 (fun q => z (by rw [q]; rfl))
  refine ⟨?_, ?_, ?_, ?_, ?_, ?_, ?_, ?_, ?_, ?_, ?_, ?_, ?_, ?_, ?_, ?_, L_hne, ?_, ?_, ?_, ?_, ?_, ?_, ?_, ?_, ?_, ?_, ?_, ?_, ?_, ?_, ?_, ?_, ?_, ?_, ?_, ?_, ?_, ?_, ?_, ?_, ?_, ?_, ?_, ?_, ?_, ?_, ?_, ?_, ?_, ?_⟩
  · rw [C_0, h13]; exact nn (by omega)
  · rw [C_1, h11]; exact nn (by omega)
  · rw [C_1, h11]; exact nI_ge (b := 4) hd (by decide)
  · rw [C_14, h12]; exact nn (by omega)
  · rw [C_14, h12]; exact nI_ge (b := 4) hq (by decide)
  · rw [C_15, h14]; exact nn (by omega)
  · rw [C_15, h14]; exact nI_ge (b := 10000) hx14 (by decide)
  · rw [C_10, C_5, C_11, C_12, h15, h16, h17, nI_add, nI_add]
  · rw [b1_, C_5]
  · rw [b2_, C_6]
  · rw [b3_, C_7]; rfl
  · rw [b4_, C_8]; rfl
  · rw [b5_, C_9]; rfl
  · rw [c2_, C_2, n16 m9]
  · rw [c1_, C_3, n16 m11]
  · rw [c3_, C_4, n16 m10]
  · rw [b1_, b2_]; exact fun z => (dv z).1
  · rw [b1_, b2_, L_val]
    by_cases z : nI (fb_ct (ln u) 28) = 0
    · rw [if_pos z]; exact T_d1
    · rw [if_neg z]; exact (dv z).2
  · intro i hi
    obtain ⟨⟨x, hx1, hx9, e⟩, -, -⟩ := H.2.1 i hi
    rw [O_0 hi, e]; exact nI_nlt (b := 1) hx1 (by omega)
  · intro i hi
    obtain ⟨⟨x, hx1, hx9, e⟩, -, -⟩ := H.2.1 i hi
    rw [O_0 hi, e]; exact nI_nlt (a := 9) hx9 (by decide)
  · intro i hi
    obtain ⟨-, ⟨x, hx, e⟩, -⟩ := H.2.1 i hi
    rw [O_3 hi, e]; exact nn (by omega)
  · intro i hi
    obtain ⟨-, ⟨x, hx, e⟩, -⟩ := H.2.1 i hi
    rw [O_3 hi, e]; exact nI_ge (b := 16) hx (by decide)
  · intro i hi
    rw [O_4 hi, O_5 hi]
    exact nI_nlt (fb_ct_sub (fun k _ z => (Bool.and_eq_true_iff.mp z).1)) (by have := ct29 (ow u i); omega)
  · intro i hi
    obtain ⟨-, ⟨x, hx, e⟩, -⟩ := H.2.1 i hi
    rw [O_3 hi, e, R_5 hx, O_6 hi, n_walks hi]
    exact nI_nlt (pw_le H hi hx e) (by have := ct29 (fun k => th u k && at_ x k); omega)
  · intro i hi
    obtain ⟨-, -, ⟨x, hx, e⟩⟩ := H.2.1 i hi
    rw [O_7 hi, e]; exact nn (by omega)
  · intro i hi
    have hp := ph_le (o := i) H
    rw [b1_, O_8 hi, n_hangs, show (24 : Int32) - nI (fb_ct (ln u) 28) = nI (24 - fb_ct (ln u) 28) from pk_sub (a := 24) (by omega)]
    exact nI_nlt (by omega) (by omega)
  · intro i hi
    rw [O_8 hi, n_hangs]
    exact if_i ((best_iff hi).trans (nI_z (by have := ct29 (phB u w i); omega)).symm)
  · intro i hi
    rw [R_1 hi, R_2 hi, chim_n hi h11 h12, bo_b1 _ (by omega), h11, smoke_bt hd hq h12]
    have hc := fb_ct_le (smP w d q i) 16
    unfold b1
    by_cases z : 0 < fb_ct (smP w d q i) 16
    · rw [if_neg (nI_nle z (by omega)), if_pos (decide_eq_true z), if_pos (show nI 1 = 1 from rfl)]
    · rw [if_pos ((nI_lz (by omega)).mpr (by omega)), if_neg (fun y => z (of_decide_eq_true y)), if_neg (show ¬ nI 0 = 1 by decide)]
  · intro i hi
    rw [R_2 hi, R_0 hi, chim_n hi h11 h12, bo_b1 _ (by omega)]
    have hc := fb_ct_le (smP w d q i) 16
    unfold b1
    refine nI_nlt ?_ (by omega)
    split
    · rename_i z
      exact chim_own hi hd hq z
    · exact Nat.zero_le _
  · intro i hi
    rw [R_4 hi, h_630 _ 4 (Nat.le_refl _)]; rfl
  · intro i hi
    rw [R_5 hi, (h_523 H hi _ 28 (Nat.le_refl _)).1]
  · intro i hi
    rw [R_6 hi, (h_523 H hi _ 28 (Nat.le_refl _)).2]
  · intro i hi
    obtain ⟨n, e, n1, n2, -⟩ := rf_ans (fun _ _ => 0) hi H
    rw [R_7 hi, e]; exact nI_nlt (b := 1) n1 (by omega)
  · intro i hi
    obtain ⟨n, e, n1, n2, -⟩ := rf_ans (fun _ _ => 0) hi H
    rw [R_7 hi, e]; exact nI_nlt (a := 16) n2 (by decide)
  · intro i hi
    obtain ⟨n, e, n1, n2, n3⟩ := rf_ans (fun _ _ => 0) hi H
    rw [R_7 hi, e, (h_523 H hi _ 28 (Nat.le_refl _)).1]
    exact if_i ((nI_z (by have := ct29 (fun k => th u k && at_ i k); omega)).trans (n3.symm.trans (nI_eq (b := 1) (by omega) (by decide)).symm))
  · intro i hi hb
    exact G_no ((br_eq i hi).mp hb) 0
  · intro i hi hb
    have hg := bf.mp (fun z => hb ((br_iff hi).mpr z))
    obtain ⟨⟨b, hb9, e, -⟩, -⟩ := H.1 i hi
    rw [G_0 hi hg, e]; exact nn (by omega)
  · intro i hi hb
    have hg := bf.mp (fun z => hb ((br_iff hi).mpr z))
    obtain ⟨⟨b, hb9, e, -⟩, -⟩ := H.1 i hi
    rw [G_0 hi hg, e]; exact nI_nlt (a := 9) hb9 (by decide)
  · intro i hi hb h6
    have hg := bf.mp (fun z => hb ((br_iff hi).mpr z))
    rw [G_1 hg]; exact ((N_ls8 i hi hg).1 h6).1
  · intro i hi hb h6
    have hg := bf.mp (fun z => hb ((br_iff hi).mpr z))
    rw [G_2 hg]; exact ((N_ls8 i hi hg).1 h6).2
  · intro i hi hb h6
    have hg := bf.mp (fun z => hb ((br_iff hi).mpr z))
    rw [G_1 hg]; exact ((N_ls8 i hi hg).2 h6).1
  · intro i hi hb h6
    have hg := bf.mp (fun z => hb ((br_iff hi).mpr z))
    rw [G_2 hg]; exact ((N_ls8 i hi hg).2 h6).2
  · intro i hi hb hl
    have hg := bf.mp (fun z => hb ((br_iff hi).mpr z))
    have hl2 : ¬ ln u i = false := fun z => hl ((G3_no H hi hg).mpr z)
    obtain ⟨-, -, x, hx, e⟩ := CI_ln H hi (bf.mp hl2)
    rw [G_3 hi hg, if_neg hl2, e]; exact nn (by omega)
  · intro i hi hb hl
    have hg := bf.mp (fun z => hb ((br_iff hi).mpr z))
    have hl2 : ¬ ln u i = false := fun z => hl ((G3_no H hi hg).mpr z)
    obtain ⟨-, -, x, hx, e⟩ := CI_ln H hi (bf.mp hl2)
    rw [G_3 hi hg, if_neg hl2, e]; exact nI_ge (b := 4) hx (by decide)
  · intro i hi hb hl
    have hg := bf.mp (fun z => hb ((br_iff hi).mpr z))
    have hl2 : ¬ ln u i = false := fun z => hl ((G3_no H hi hg).mpr z)
    rw [G_0 hi hg]
    exact nd_t.mp (CI_ln H hi (bf.mp hl2)).1
  · intro i hi hb hl
    have hg := bf.mp (fun z => hb ((br_iff hi).mpr z))
    have hl2 : ¬ ln u i = false := fun z => hl ((G3_no H hi hg).mpr z)
    obtain ⟨-, ⟨a, ha, e⟩, -⟩ := H.1 i hi
    rw [G_4 hi hg, if_neg hl2, e]; exact nn (by omega)
  · intro i hi hb hl
    have hg := bf.mp (fun z => hb ((br_iff hi).mpr z))
    have hl2 : ¬ ln u i = false := fun z => hl ((G3_no H hi hg).mpr z)
    obtain ⟨-, -, ⟨a, ha, e⟩⟩ := H.1 i hi
    rw [G_5 hi hg, if_neg hl2, e]; exact nn (by omega)
  · intro i hi hb hl
    have hg := bf.mp (fun z => hb ((br_iff hi).mpr z))
    rw [G_4 hi hg, if_pos ((G3_no H hi hg).mp hl)]
  · intro i hi hb hl
    have hg := bf.mp (fun z => hb ((br_iff hi).mpr z))
    rw [G_5 hi hg, if_pos ((G3_no H hi hg).mp hl)]
  · intro i hi hb
    have hg := bf.mp (fun z => hb ((br_iff hi).mpr z))
    obtain ⟨e1, e2, -⟩ := N_ls i hi
    obtain ⟨l1, l2, -⟩ := N_ls16 i hi hg
    rw [G_6 hg, G_1 hg, G_2 hg, e1, e2, R_1 l1, R_1 l2, bc_roofs _ hi, bo_b1 _ (by omega), bo_b1 _ (by omega), nI_add]
end FH
