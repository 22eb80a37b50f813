theorem lx_in {L i : Nat} (hL : L ≤ 2560) (h : 5 * i + 5 ≤ L) : ¬ Int32.ofNat L - (5 : Int32) < nI (5 * i) := by
  intro z
  have h1 := Int32.lt_iff_toInt_lt.mp z
  have h2 : (Int32.ofNat L - (5 : Int32)).toInt = (L : Int) - (5 : Nat) := pk_sub_toInt (a := L) (b := 5) (by omega) (by omega)
  rw [h2, nI_toInt (by omega)] at h1
  omega
theorem lx_out {L i : Nat} (hL : L ≤ 2560) (hi : i ≤ 600) (h : L < 5 * i + 5) : Int32.ofNat L - (5 : Int32) < nI (5 * i) := by
  apply Int32.lt_iff_toInt_lt.mpr
  have h2 : (Int32.ofNat L - (5 : Int32)).toInt = (L : Int) - (5 : Nat) := pk_sub_toInt (a := L) (b := 5) (by omega) (by omega)
  rw [h2, nI_toInt (by omega)]
  omega
/-! ===== the law's loop ===== -/
section LAWL
variable {p : Program} {l : Launch} {e : Env} {s : State} {m : MethodId} {below : List Frame} {meth : Method} {c : Code} {b L : Nat} {xs : Nat → Int32} {D : va_G} {cyC cyI cyO : ClassId} {Z C TR SN HI Y P R A : Nat → Nat} {BB : Nat → Nat → Nat} {NC NS : Nat}
set_option maxHeartbeats 4000000 in
set_option maxRecDepth 100000 in
theorem law_loop (C0 : lw_At p s m meth c b L xs) (hK : KK D cyC cyI cyO s) (hNC : NC ≤ room_1.cells) (hNS : NS ≤ room_1.slots) (hL : L ≤ 2560) : ∀ (k i : Nat), L < 5 * i + 5 + k → i ≤ 600 → ∀ (rt : Nat → Int32) (sg : Nat → Nat → Int32) (pw rd : Nat → Int32) (u : Nat → Nat → Int32) (w : Nat → Int32) (h : Nat → (Nat → Nat → Int32) × (Nat → Int32)) (r : Nat) (v : Nat → Int32) (tu : Nat → Nat → Int32) (tw : Nat → Int32) (su : Nat → Nat → Int32) (sw : Nat → Int32) (g : Nat → Nat → Int32) (mm : Nat → Nat → Int32) (xx : Nat → Int32) (kn n : Nat), RA (128 * i) rt sg pw u w h r v su sw mm xx kn n → ∀ (H : Heap) (locs : List Loc), va_P D vwCl (List.flatten [wRt Z C TR SN HI Y P R rt, wPd cyC P sg pw, wRd R P rd, wC cyI C u w, wHM cyI cyO HI BB h r v, wC cyI TR tu tw, wC cyI SN su sw, wWy cyI Y g, wM cyI A mm xx]) H → va_D (fun q : Nat => s.heap.size ≤ q) (List.flatten [wRt Z C TR SN HI Y P R rt, wPd cyC P sg pw, wRd R P rd, wC cyI C u w, wHM cyI cyO HI BB h r v, wC cyI TR tu tw, wC cyI SN su sw, wWy cyI Y g, wM cyI A mm xx]) → va_S (fun q : Nat => s.heap.size ≤ q) s.heap H locs → ∀ (ls : Array Slot), lv_has ls 8 [(0, .ref b), (1, .ref (Z 0)), (2, .ref (A 0)), (3, .int (nI (5 * i)))] → W p l e room_1 s m (#[Value.ref b] : Array Value) below meth c H locs NC NS (lw_Z below #[Value.ref b] s) (F0 m 18 ls []) := by
  have C1 := C0
  obtain ⟨hx, hb, hr, hml, hown, hts0, hX, hbl, hlocks, hgv⟩ := C1
  have hA : ∀ q : Nat, s.heap.size ≤ q → (fun q : Nat => s.heap.size ≤ q) q := fun _ h => h
  have hbA : ¬ (fun q : Nat => s.heap.size ≤ q) b := Nat.not_le.mpr hbl
  intro k
  induction k with
  | zero =>
    intro i hi hi6 rt sg pw rd u w h r v tu tw su sw g mm xx kn n H0 H locs hP hD hS ls hl
    refine lv_iload_n hx hb dL_law_18 rfl (lv_at hl 3 rfl) ?_
    refine lv_aload_n hx hb dL_law_19 rfl (lv_at hl 0 rfl) ?_
    refine va_slen hx hb hX hbl hbA hS dL_law_20 ?_
    refine lv_iconst (v := 5) hx hb dL_law_21 (by decide) ?_
    refine lv_isub hx hb dL_law_22 ?_
    refine lv_icmp_gt (tgt := 968) hx hb dL_law_23 (by decide) (fun q => ?_) (fun q => absurd (lx_out hL hi6 (by omega)) q)
    refine lv_iconst (v := 1) hx hb dL_law_968 (by decide) ?_
    refine va_forget (fun q hq => hS.2.2 q hq) ?_
    refine W.widen (k := 600000) (n := 7302250) (show NC ≤ 600000 from hNC) (show NS ≤ 7302250 from hNS) ?_
    exact W.base (lw_ret (d0 := s.drawn) (Drawn.sameBut.refl s.drawn lw_cs) hx hb hr hlocks dL_law_969)
  | succ k ih =>
    intro i hi hi6 rt sg pw rd u w h r v tu tw su sw g mm xx kn n H0 H locs hP hD hS ls hl
    refine lv_iload_n hx hb dL_law_18 rfl (lv_at hl 3 rfl) ?_
    refine lv_aload_n hx hb dL_law_19 rfl (lv_at hl 0 rfl) ?_
    refine va_slen hx hb hX hbl hbA hS dL_law_20 ?_
    refine lv_iconst (v := 5) hx hb dL_law_21 (by decide) ?_
    refine lv_isub hx hb dL_law_22 ?_
    by_cases hle : 5 * i + 5 ≤ L
    · refine lv_icmp_gt (tgt := 968) hx hb dL_law_23 (by decide) (fun q => absurd q (lx_in hL hle)) (fun q => ?_)
      have kk : LK p l e s m below meth c b D cyC cyI cyO Z C TR SN HI Y P R A BB NC NS i := by
        intro rt sg pw rd u w h r v tu tw su sw g mm xx kn n H1 H locs hP hD hS ls hl
        refine lv_iinc (v := nI (5 * (i + 1))) (lv' := [(3, .int (nI (5 * (i + 1)))), (0, .ref b), (1, .ref (Z 0)), (2, .ref (A 0))]) hx hb dL_law_962 hl (k := 3) rfl (nI_add (5 * i) 5) (by decide) rfl (fun ls hl => ?_)
        refine lv_goto (tgt := 18) hx hb dL_law_965 (by decide) ?_
        exact ih (i + 1) (by omega) (by omega) rt sg pw rd u w h r v tu tw su sw g mm xx kn n H1 H locs hP hD hS ls (lv_sub hl [1, 2, 3, 0] rfl)
      refine lv_aload_n hx hb dL_law_26 rfl (lv_at hl 0 rfl) ?_
      refine lv_iload_n hx hb dL_law_27 rfl (lv_at hl 3 rfl) ?_
      refine va_sld hx hb hX hbl hbA hS (vp_in_nI (by omega) (by omega)) dL_law_28 ?_
      refine lv_bipush (v := 31) hx hb dL_law_29 (by decide) ?_
      refine lv_iand hx hb dL_law_31 ?_
      obtain ⟨j, hj, ej⟩ := pk_andE (xs (nI (5 * i)).toNatClampNeg) (m := 31) 5 (by decide)
      rw [ej]
      rcases (show j = 0 ∨ j = 1 ∨ j = 2 ∨ j = 3 ∨ j = 4 ∨ j = 5 ∨ j = 6 ∨ j = 7 ∨ j = 8 ∨ j = 9 ∨ j = 10 ∨ j = 11 ∨ j = 12 ∨ j = 13 ∨ j = 14 ∨ j = 15 ∨ j = 16 ∨ j = 17 ∨ j = 18 ∨ j = 19 ∨ j = 20 ∨ j = 21 ∨ j = 22 ∨ j = 23 ∨ j = 24 ∨ j = 25 ∨ j = 26 ∨ j = 27 ∨ j = 28 ∨ j = 29 ∨ j = 30 ∨ j = 31 by omega) with rfl | rfl | rfl | rfl | rfl | rfl | rfl | rfl | rfl | rfl | rfl | rfl | rfl | rfl | rfl | rfl | rfl | rfl | rfl | rfl | rfl | rfl | rfl | rfl | rfl | rfl | rfl | rfl | rfl | rfl | rfl | rfl
      · refine lv_tableIn (off := 136) (tgt := 168) hx hb dL_law_32 (by decide) (by decide) rfl (by decide) ?_
        exact lc_0 C0 hK hNC hNS hle hL rt sg pw rd u w h r v tu tw su sw g mm xx kn n H0 kk H locs hP hD hS ls hl
      · refine lv_tableIn (off := 169) (tgt := 201) hx hb dL_law_32 (by decide) (by decide) rfl (by decide) ?_
        exact lc_1 C0 hK hNC hNS hle hL rt sg pw rd u w h r v tu tw su sw g mm xx kn n H0 kk H locs hP hD hS ls hl
      · refine lv_tableIn (off := 192) (tgt := 224) hx hb dL_law_32 (by decide) (by decide) rfl (by decide) ?_
        exact lc_2 C0 hK hNC hNS hle hL rt sg pw rd u w h r v tu tw su sw g mm xx kn n H0 kk H locs hP hD hS ls hl
      · refine lv_tableIn (off := 215) (tgt := 247) hx hb dL_law_32 (by decide) (by decide) rfl (by decide) ?_
        exact lc_3 C0 hK hNC hNS hle hL rt sg pw rd u w h r v tu tw su sw g mm xx kn n H0 kk H locs hP hD hS ls hl
      · refine lv_tableIn (off := 238) (tgt := 270) hx hb dL_law_32 (by decide) (by decide) rfl (by decide) ?_
        exact lc_4 C0 hK hNC hNS hle hL rt sg pw rd u w h r v tu tw su sw g mm xx kn n H0 kk H locs hP hD hS ls hl
      · refine lv_tableIn (off := 307) (tgt := 339) hx hb dL_law_32 (by decide) (by decide) rfl (by decide) ?_
        exact lc_5 C0 hK hNC hNS hle hL rt sg pw rd u w h r v tu tw su sw g mm xx kn n H0 kk H locs hP hD hS ls hl
      · refine lv_tableIn (off := 330) (tgt := 362) hx hb dL_law_32 (by decide) (by decide) rfl (by decide) ?_
        exact lc_6 C0 hK hNC hNS hle hL rt sg pw rd u w h r v tu tw su sw g mm xx kn n H0 kk H locs hP hD hS ls hl
      · refine lv_tableIn (off := 363) (tgt := 395) hx hb dL_law_32 (by decide) (by decide) rfl (by decide) ?_
        exact lc_7 C0 hK hNC hNS hle hL rt sg pw rd u w h r v tu tw su sw g mm xx kn n H0 kk H locs hP hD hS ls hl
      · refine lv_tableIn (off := 396) (tgt := 428) hx hb dL_law_32 (by decide) (by decide) rfl (by decide) ?_
        exact lc_8 C0 hK hNC hNS hle hL rt sg pw rd u w h r v tu tw su sw g mm xx kn n H0 kk H locs hP hD hS ls hl
      · refine lv_tableIn (off := 429) (tgt := 461) hx hb dL_law_32 (by decide) (by decide) rfl (by decide) ?_
        exact lc_9 C0 hK hNC hNS hle hL rt sg pw rd u w h r v tu tw su sw g mm xx kn n H0 kk H locs hP hD hS ls hl
      · refine lv_tableIn (off := 442) (tgt := 474) hx hb dL_law_32 (by decide) (by decide) rfl (by decide) ?_
        exact lc_10 C0 hK hNC hNS hle hL rt sg pw rd u w h r v tu tw su sw g mm xx kn n H0 kk H locs hP hD hS ls hl
      · refine lv_tableIn (off := 465) (tgt := 497) hx hb dL_law_32 (by decide) (by decide) rfl (by decide) ?_
        exact lc_11 C0 hK hNC hNS hle hL rt sg pw rd u w h r v tu tw su sw g mm xx kn n H0 kk H locs hP hD hS ls hl
      · refine lv_tableIn (off := 478) (tgt := 510) hx hb dL_law_32 (by decide) (by decide) rfl (by decide) ?_
        exact lc_12 C0 hK hNC hNS hle hL rt sg pw rd u w h r v tu tw su sw g mm xx kn n H0 kk H locs hP hD hS ls hl
      · refine lv_tableIn (off := 491) (tgt := 523) hx hb dL_law_32 (by decide) (by decide) rfl (by decide) ?_
        exact lc_13 C0 hK hNC hNS hle hL rt sg pw rd u w h r v tu tw su sw g mm xx kn n H0 kk H locs hP hD hS ls hl
      · refine lv_tableIn (off := 504) (tgt := 536) hx hb dL_law_32 (by decide) (by decide) rfl (by decide) ?_
        exact lc_14 C0 hK hNC hNS hle hL rt sg pw rd u w h r v tu tw su sw g mm xx kn n H0 kk H locs hP hD hS ls hl
      · refine lv_tableIn (off := 527) (tgt := 559) hx hb dL_law_32 (by decide) (by decide) rfl (by decide) ?_
        exact lc_15 C0 hK hNC hNS hle hL rt sg pw rd u w h r v tu tw su sw g mm xx kn n H0 kk H locs hP hD hS ls hl
      · refine lv_tableIn (off := 560) (tgt := 592) hx hb dL_law_32 (by decide) (by decide) rfl (by decide) ?_
        exact lc_16 C0 hK hNC hNS hle hL rt sg pw rd u w h r v tu tw su sw g mm xx kn n H0 kk H locs hP hD hS ls hl
      · refine lv_tableIn (off := 593) (tgt := 625) hx hb dL_law_32 (by decide) (by decide) rfl (by decide) ?_
        exact lc_17 C0 hK hNC hNS hle hL rt sg pw rd u w h r v tu tw su sw g mm xx kn n H0 kk H locs hP hD hS ls hl
      · refine lv_tableIn (off := 626) (tgt := 658) hx hb dL_law_32 (by decide) (by decide) rfl (by decide) ?_
        exact lc_18 C0 hK hNC hNS hle hL rt sg pw rd u w h r v tu tw su sw g mm xx kn n H0 kk H locs hP hD hS ls hl
      · refine lv_tableIn (off := 659) (tgt := 691) hx hb dL_law_32 (by decide) (by decide) rfl (by decide) ?_
        exact lc_19 C0 hK hNC hNS hle hL rt sg pw rd u w h r v tu tw su sw g mm xx kn n H0 kk H locs hP hD hS ls hl
      · refine lv_tableIn (off := 702) (tgt := 734) hx hb dL_law_32 (by decide) (by decide) rfl (by decide) ?_
        exact lc_20 C0 hK hNC hNS hle hL rt sg pw rd u w h r v tu tw su sw g mm xx kn n H0 kk H locs hP hD hS ls hl
      · refine lv_tableIn (off := 735) (tgt := 767) hx hb dL_law_32 (by decide) (by decide) rfl (by decide) ?_
        exact lc_21 C0 hK hNC hNS hle hL rt sg pw rd u w h r v tu tw su sw g mm xx kn n H0 kk H locs hP hD hS ls hl
      · refine lv_tableIn (off := 758) (tgt := 790) hx hb dL_law_32 (by decide) (by decide) rfl (by decide) ?_
        exact lc_22 C0 hK hNC hNS hle hL rt sg pw rd u w h r v tu tw su sw g mm xx kn n H0 kk H locs hP hD hS ls hl
      · refine lv_tableIn (off := 799) (tgt := 831) hx hb dL_law_32 (by decide) (by decide) rfl (by decide) ?_
        exact lc_23 C0 hK hNC hNS hle hL rt sg pw rd u w h r v tu tw su sw g mm xx kn n H0 kk H locs hP hD hS ls hl
      · refine lv_tableIn (off := 822) (tgt := 854) hx hb dL_law_32 (by decide) (by decide) rfl (by decide) ?_
        exact lc_24 C0 hK hNC hNS hle hL rt sg pw rd u w h r v tu tw su sw g mm xx kn n H0 kk H locs hP hD hS ls hl
      · refine lv_tableIn (off := 835) (tgt := 867) hx hb dL_law_32 (by decide) (by decide) rfl (by decide) ?_
        exact lc_25 C0 hK hNC hNS hle hL rt sg pw rd u w h r v tu tw su sw g mm xx kn n H0 kk H locs hP hD hS ls hl
      · refine lv_tableIn (off := 868) (tgt := 900) hx hb dL_law_32 (by decide) (by decide) rfl (by decide) ?_
        exact lc_26 C0 hK hNC hNS hle hL rt sg pw rd u w h r v tu tw su sw g mm xx kn n H0 kk H locs hP hD hS ls hl
      · refine lv_tableIn (off := 891) (tgt := 923) hx hb dL_law_32 (by decide) (by decide) rfl (by decide) ?_
        exact lc_27 C0 hK hNC hNS hle hL rt sg pw rd u w h r v tu tw su sw g mm xx kn n H0 kk H locs hP hD hS ls hl
      · refine lv_tableIn (off := 904) (tgt := 936) hx hb dL_law_32 (by decide) (by decide) rfl (by decide) ?_
        exact lc_28 C0 hK hNC hNS hle hL rt sg pw rd u w h r v tu tw su sw g mm xx kn n H0 kk H locs hP hD hS ls hl
      · refine lv_tableIn (off := 917) (tgt := 949) hx hb dL_law_32 (by decide) (by decide) rfl (by decide) ?_
        exact lc_29 C0 hK hNC hNS hle hL rt sg pw rd u w h r v tu tw su sw g mm xx kn n H0 kk H locs hP hD hS ls hl
      · refine lv_tableOut (tgt := 962) hx hb dL_law_32 (by decide) (by decide) ?_
        exact kk rt sg pw rd u w h r v tu tw su sw g mm xx kn n (RA_mono H0 (by omega)) H locs hP hD hS ls hl
      · refine lv_tableOut (tgt := 962) hx hb dL_law_32 (by decide) (by decide) ?_
        exact kk rt sg pw rd u w h r v tu tw su sw g mm xx kn n (RA_mono H0 (by omega)) H locs hP hD hS ls hl
    · refine lv_icmp_gt (tgt := 968) hx hb dL_law_23 (by decide) (fun q => ?_) (fun q => absurd (lx_out hL hi6 (by omega)) q)
      refine lv_iconst (v := 1) hx hb dL_law_968 (by decide) ?_
      refine va_forget (fun q hq => hS.2.2 q hq) ?_
      refine W.widen (k := 600000) (n := 7302250) (show NC ≤ 600000 from hNC) (show NS ≤ 7302250 from hNS) ?_
      exact W.base (lw_ret (d0 := s.drawn) (Drawn.sameBut.refl s.drawn lw_cs) hx hb hr hlocks dL_law_969)
end LAWL
