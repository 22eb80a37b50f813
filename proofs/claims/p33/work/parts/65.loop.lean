section LAWL
variable {p : Program} {l : Launch} {e : Env} {s : State} {m : MethodId} {below : List Frame} {meth : Method} {c : Code} {b L : Nat} {xs : Nat → Int32} {D : va_G} {cyC cyI cyO : ClassId} {Z C TR SN HI Y P R : Nat → Nat} {BB : Nat → Nat → Nat} {NC NS : Nat}
set_option maxHeartbeats 4000000 in
set_option maxRecDepth 100000 in
theorem lk_69 (C0 : lw_At p s m meth c b L xs) (hK : KK D cyC cyI cyO s) (hNC : NC ≤ room_1.cells) (hNS : NS ≤ room_1.slots) (hL : L ≤ 260) {B n : Nat} (hn : n < 54) (hB : B < 600000) (kk : LM p l e s m below meth c b D cyC cyI cyO Z C TR SN HI Y P R BB NC NS (B + 120) n 134) : LK p l e s m below meth c b D cyC cyI cyO Z C TR SN HI Y P R BB NC NS B n 69 := by
  have C1 := C0
  obtain ⟨hx, hb, hr, hml, hown, hts0, hX, hbl, hlocks, hgv⟩ := C1
  have hown : s.vm.findClass RL = some m.cls := hown
  have hts : ∀ w ∈ TB, w.before (#[Value.ref b] : Array Value) s = true := fun w h => hts0 w (List.mem_filter.mp h).1
  have hA : ∀ q : Nat, s.heap.size ≤ q → (fun q : Nat => s.heap.size ≤ q) q := fun _ h => h
  have hbA : ¬ (fun q : Nat => s.heap.size ≤ q) b := Nat.not_le.mpr hbl
  intro rt sg pw rd u w h r v tu tw su sw g kn H0 H locs hP hD hS ls hl
  have H00 := H0
  obtain ⟨i1, i2, i3, i4, ev, hr4, i5, i6, i7⟩ := H00
  have hq := CI_12 i1
  have hq2 := CI_12 i2
  refine lv_iload_n hx hb dL_law_69 rfl (lv_at hl 2 rfl) ?_
  refine lv_if_eq (tgt := 381) hx hb dL_law_70 (by decide) (fun q => absurd q (by decide)) (fun _ => ?_)
  refine lv_aload_n hx hb dL_law_73 rfl (lv_at hl 0 rfl) ?_
  refine lv_iconst (v := 2) hx hb dL_law_74 (by decide) ?_
  refine lv_iload hx hb dL_law_75 (lv_at hl 4 rfl) ?_
  refine lv_imul hx hb dL_law_77 ?_
  rw [show (2 : Int32) * nI n = nI (2 * n) from pk_mul 2 n]
  refine lotC hx hb hml hown hts hl.1 hL (show 2 * n < 1000 by omega) ⟨Nat.le_of_ble_eq_true rfl, Nat.le_of_ble_eq_true rfl, hNC, hNS⟩ hX hbl hbA hS (Nat.le_of_ble_eq_true rfl) dL_law_78 ?_
  refine lv_istore (lv' := [(6, .int (lotV L xs (2 * n))), (0, .ref b), (1, .ref (Z 0)), (2, .int 1), (3, .long (lookF su sw)), (5, .int (nI n))]) hx hb dL_law_81 hl (by decide) rfl (fun ls hl => ?_)
  refine lv_aload_n hx hb dL_law_83 rfl (lv_at hl 1 rfl) ?_
  refine lv_iconst (v := 2) hx hb dL_law_84 (by decide) ?_
  refine lv_iload hx hb dL_law_85 (lv_at hl 5 rfl) ?_
  refine lv_imul hx hb dL_law_87 ?_
  rw [show (2 : Int32) * nI n = nI (2 * n) from pk_mul 2 n]
  refine lv_iconst (v := 1) hx hb dL_law_88 (by decide) ?_
  refine lv_iadd hx hb dL_law_89 ?_
  rw [show nI (2 * n) + (1 : Int32) = nI (2 * n + 1) from nI_add (2 * n) 1]
  refine lotC hx hb hml hown hts hl.1 hL (show 2 * n + 1 < 1000 by omega) ⟨Nat.le_of_ble_eq_true rfl, Nat.le_of_ble_eq_true rfl, hNC, hNS⟩ hX hbl hbA hS (Nat.le_of_ble_eq_true rfl) dL_law_90 ?_
  refine lv_istore (lv' := [(7, .int (lotV L xs (2 * n + 1))), (6, .int (lotV L xs (2 * n))), (0, .ref b), (1, .ref (Z 0)), (2, .int 1), (3, .long (lookF su sw)), (5, .int (nI n))]) hx hb dL_law_93 hl (by decide) rfl (fun ls hl => ?_)
  generalize lotV L xs (2 * n) = x at hl ⊢
  generalize lotV L xs (2 * n + 1) = y at hl ⊢
  refine lv_aload_n hx hb dL_law_95 rfl (lv_at hl 3 rfl) ?_
  refine rlSB (bl := WB cyC cyI cyO Z C TR SN HI Y P R BB rt sg pw rd u w h r v tu tw su sw g) (WSb := WB cyC cyI cyO Z C TR SN HI Y P R BB rt sg pw rd u w h r v tu tw su sw g) (As := [.ref (Z 0)]) (rest := []) hx hb hml hown hts hl.1 (by have k := kL_look l D cyC cyI cyO Z C TR SN HI Y P R BB rt sg pw rd u w h r v tu tw su sw g hq; rw [look_F] at k; exact k) bS_L_look wml_RL_75 ⟨rfl, rfl⟩ ⟨Nat.le_of_ble_eq_true rfl, Nat.le_of_ble_eq_true rfl, hNC, hNS⟩ [0, 1, 2, 3, 4, 5, 6, 7] rfl rfl hP hK rfl rfl (Nat.le_of_ble_eq_true rfl) dL_law_96 ?_
  refine lv_lstore (lv' := [(8, .long (lookF u w)), (7, .int y), (6, .int x), (0, .ref b), (1, .ref (Z 0)), (2, .int 1), (3, .long (lookF su sw)), (5, .int (nI n))]) hx hb dL_law_99 hl (by decide) rfl (fun ls hl => ?_)
  refine lv_aload_n hx hb dL_law_101 rfl (lv_at hl 4 rfl) ?_
  refine lv_bipush (v := 17) hx hb dL_law_102 (by decide) ?_
  refine rVB (bl := WB cyC cyI cyO Z C TR SN HI Y P R BB rt sg pw rd u w h r v tu tw su sw g) (WSb := WB cyC cyI cyO Z C TR SN HI Y P R BB rt sg pw rd u w h r v tu tw su sw g) (As := [.int 17]) (rest := []) hx hb hml hown hts hl.1 (by have k := k_fC17 l D cyC cyI cyO Z C TR SN HI Y P R BB rt sg pw rd u w h r v tu tw su sw g hq; rw [ev] at k; exact k) bV_X6_count wml_RL_13 ⟨rfl, rfl⟩ ⟨Nat.le_of_ble_eq_true rfl, Nat.le_of_ble_eq_true rfl, hNC, hNS⟩ [0, 1, 2, 3, 4, 5, 6, 7] rfl rfl hP hK 0 rfl rfl rfl rfl rfl (Nat.le_of_ble_eq_true rfl) dL_law_104 ?_
  refine lv_istore (lv' := [(10, .int (nI kn)), (8, .long (lookF u w)), (7, .int y), (6, .int x), (0, .ref b), (1, .ref (Z 0)), (2, .int 1), (3, .long (lookF su sw)), (5, .int (nI n))]) hx hb dL_law_107 hl (by decide) rfl (fun ls hl => ?_)
  refine lv_aload_n hx hb dL_law_109 rfl (lv_at hl 5 rfl) ?_
  refine lv_iload hx hb dL_law_110 (lv_at hl 3 rfl) ?_
  refine lv_iload hx hb dL_law_112 (lv_at hl 2 rfl) ?_
  obtain ⟨mm, hmm, epw⟩ := i6
  obtain ⟨FA, FB⟩ := F_acts (rt := rt) (sg := sg) (pw := pw) (rd := rd) (u := u) (w := w) (h := h) (r := r) (v := v) (tu := tu) (tw := tw) (su := su) (sw := sw) (g := g) (a2 := x) (a3 := y) i1 (by omega) i4 ev i5 epw hmm
  obtain ⟨kn', K1, K2⟩ := IV_acts H0 FB (by omega)
  have kA := kL_acts l D cyC cyI cyO Z C TR SN HI Y P R BB rt sg pw rd u w h r v tu tw su sw g x y hr4 hq FA
  generalize pL_acts rt sg pw rd u w h r v tu tw su sw g x y = X at K1 K2 kA
  refine mSB (bl := WB cyC cyI cyO Z C TR SN HI Y P R BB rt sg pw rd u w h r v tu tw su sw g) (bl' := WB cyC cyI cyO Z C TR SN HI Y P R BB (X.1) (X.2.1) (X.2.2.1) (X.2.2.2.1) (X.2.2.2.2.2.2.2.1) (X.2.2.2.2.2.2.2.2.1) (X.2.2.2.2.1) (X.2.2.2.2.2.1) (X.2.2.2.2.2.2.1) (X.2.2.2.2.2.2.2.2.2.1) (X.2.2.2.2.2.2.2.2.2.2) su sw g) (WSb := WB cyC cyI cyO Z C TR SN HI Y P R BB rt sg pw rd u w h r v tu tw su sw g) (WSb' := WB cyC cyI cyO Z C TR SN HI Y P R BB (X.1) (X.2.1) (X.2.2.1) (X.2.2.2.1) (X.2.2.2.2.2.2.2.1) (X.2.2.2.2.2.2.2.2.1) (X.2.2.2.2.1) (X.2.2.2.2.2.1) (X.2.2.2.2.2.2.1) (X.2.2.2.2.2.2.2.2.2.1) (X.2.2.2.2.2.2.2.2.2.2) su sw g) (As := [.ref (Z 0), .int x, .int y]) (rest := []) hx hb hml hown hts hl.1 (WS := (List.flatten (WB cyC cyI cyO Z C TR SN HI Y P R BB rt sg pw rd u w h r v tu tw su sw g))) (WS' := (List.flatten (WB cyC cyI cyO Z C TR SN HI Y P R BB (X.1) (X.2.1) (X.2.2.1) (X.2.2.2.1) (X.2.2.2.2.2.2.2.1) (X.2.2.2.2.2.2.2.2.1) (X.2.2.2.2.1) (X.2.2.2.2.2.1) (X.2.2.2.2.2.2.1) (X.2.2.2.2.2.2.2.2.2.1) (X.2.2.2.2.2.2.2.2.2.2) su sw g))) (ro := (some (.int 1))) (kA) bS_L_acts wml_RL_150 ⟨rfl, rfl⟩ ⟨Nat.le_of_ble_eq_true rfl, Nat.le_of_ble_eq_true rfl, hNC, hNS⟩ [0, 1, 2, 3, 4, 5, 6, 7] rfl rfl rfl rfl rfl rfl rfl hP hD hS hA hK rfl rfl (Nat.le_of_ble_eq_true rfl) dL_law_114 (fun H locs hP hD hS => ?_)
  have hR' : RL_ kn (lookF u w) kn' (X.2.2.2.2.2.2.2.1) (X.2.2.2.2.2.2.2.2.1) (X.2.2.2.2.1) (X.2.2.2.2.2.1) := by
    rcases K2 with ⟨z1, z2, z3⟩ | ⟨z1, z2⟩
    · exact Or.inl ⟨z1, by rw [z2, z3]⟩
    · exact Or.inr ⟨z1, by rw [z2]⟩
  have K3 := K1
  obtain ⟨y1, y2, y3, y4, yv, yr, y5, y6, y7⟩ := K3
  have yq := CI_12 y1
  refine lv_if_eq (tgt := 155) hx hb dL_law_117 (by decide) (fun q => absurd q (by decide)) (fun _ => ?_)
  refine lv_iload hx hb dL_law_120 (lv_at hl 8 rfl) ?_
  refine lv_iconst (v := 4) hx hb dL_law_122 (by decide) ?_
  refine lv_irem hx hb dL_law_123 (by decide) ?_
  rw [show nI n - nI n / (4 : Int32) * (4 : Int32) = nI (n % 4) from pk_rem (by omega) (by decide) (by decide)]
  refine lv_if_gt (tgt := 134) hx hb dL_law_124 (by decide) (fun _ => kk (X.1) (X.2.1) (X.2.2.1) (X.2.2.2.1) (X.2.2.2.2.2.2.2.1) (X.2.2.2.2.2.2.2.2.1) (X.2.2.2.2.1) (X.2.2.2.2.2.1) (X.2.2.2.2.2.2.1) (X.2.2.2.2.2.2.2.2.2.1) (X.2.2.2.2.2.2.2.2.2.2) su sw g kn' kn y (lookF u w) K1 i4 hR' H locs hP hD hS ls (lv_sub hl [4, 5, 6, 7, 8, 2, 1, 0] rfl)) (fun _ => ?_)
  refine lv_aload_n hx hb dL_law_127 rfl (lv_at hl 5 rfl) ?_
  refine rSB (bl := WB cyC cyI cyO Z C TR SN HI Y P R BB (X.1) (X.2.1) (X.2.2.1) (X.2.2.2.1) (X.2.2.2.2.2.2.2.1) (X.2.2.2.2.2.2.2.2.1) (X.2.2.2.2.1) (X.2.2.2.2.2.1) (X.2.2.2.2.2.2.1) (X.2.2.2.2.2.2.2.2.2.1) (X.2.2.2.2.2.2.2.2.2.2) su sw g) (WSb := WB cyC cyI cyO Z C TR SN HI Y P R BB (X.1) (X.2.1) (X.2.2.1) (X.2.2.2.1) (X.2.2.2.2.2.2.2.1) (X.2.2.2.2.2.2.2.2.1) (X.2.2.2.2.1) (X.2.2.2.2.2.1) (X.2.2.2.2.2.2.1) (X.2.2.2.2.2.2.2.2.2.1) (X.2.2.2.2.2.2.2.2.2.2) su sw g) (As := [.ref (Z 0)]) (rest := []) hx hb hml hown hts hl.1 (kL_holds l D cyC cyI cyO Z C TR SN HI Y P R BB (X.1) (X.2.1) (X.2.2.1) (X.2.2.2.1) (X.2.2.2.2.2.2.2.1) (X.2.2.2.2.2.2.2.2.1) (X.2.2.2.2.1) (X.2.2.2.2.2.1) (X.2.2.2.2.2.2.1) (X.2.2.2.2.2.2.2.2.2.1) (X.2.2.2.2.2.2.2.2.2.2) su sw g yq (F_holds y1 (by omega) (X.1) (X.2.1) (X.2.2.1) (X.2.2.2.1) (X.2.2.2.2.1) (X.2.2.2.2.2.1) (X.2.2.2.2.2.2.1) (X.2.2.2.2.2.2.2.2.2.1) (X.2.2.2.2.2.2.2.2.2.2) su sw g)) bS_L_holds wml_RL_130 ⟨rfl, rfl⟩ ⟨Nat.le_of_ble_eq_true rfl, Nat.le_of_ble_eq_true rfl, hNC, hNS⟩ [0, 1, 2, 3, 4, 5, 6, 7] rfl rfl hP hK rfl rfl (Nat.le_of_ble_eq_true rfl) dL_law_128 ?_
  refine lv_if_eq (tgt := 155) hx hb dL_law_131 (by decide) (fun q => absurd q (by decide)) (fun _ => ?_)
  exact kk (X.1) (X.2.1) (X.2.2.1) (X.2.2.2.1) (X.2.2.2.2.2.2.2.1) (X.2.2.2.2.2.2.2.2.1) (X.2.2.2.2.1) (X.2.2.2.2.2.1) (X.2.2.2.2.2.2.1) (X.2.2.2.2.2.2.2.2.2.1) (X.2.2.2.2.2.2.2.2.2.2) su sw g kn' kn y (lookF u w) K1 i4 hR' H locs hP hD hS ls (lv_sub hl [4, 5, 6, 7, 8, 2, 1, 0] rfl)
set_option maxHeartbeats 4000000 in
set_option maxRecDepth 100000 in
theorem law_loop (C0 : lw_At p s m meth c b L xs) (hK : KK D cyC cyI cyO s) (hNC : NC ≤ room_1.cells) (hNS : NS ≤ room_1.slots) (hL : L ≤ 260) : ∀ (k n : Nat), n + k = 54 → LK p l e s m below meth c b D cyC cyI cyO Z C TR SN HI Y P R BB NC NS (2 + 120 * n) n 62 := by
  have C1 := C0
  obtain ⟨hx, hb, hr, hml, hown, hts0, hX, hbl, hlocks, hgv⟩ := C1
  have hown : s.vm.findClass RL = some m.cls := hown
  have hts : ∀ w ∈ TB, w.before (#[Value.ref b] : Array Value) s = true := fun w h => hts0 w (List.mem_filter.mp h).1
  have hA : ∀ q : Nat, s.heap.size ≤ q → (fun q : Nat => s.heap.size ≤ q) q := fun _ h => h
  have hbA : ¬ (fun q : Nat => s.heap.size ≤ q) b := Nat.not_le.mpr hbl
  intro k
  induction k with
  | zero =>
    intro n hn
    obtain rfl : n = 54 := by omega
    intro rt sg pw rd u w h r v tu tw su sw g kn H0 H locs hP hD hS ls hl
    have H00 := H0
    obtain ⟨i1, i2, i3, i4, ev, hr4, i5, i6, i7⟩ := H00
    have hq := CI_12 i1
    have hq2 := CI_12 i2
    refine lv_iload hx hb dL_law_62 (lv_at hl 4 rfl) ?_
    refine lv_bipush (v := 54) hx hb dL_law_64 (by decide) ?_
    refine lv_icmp_ge (tgt := 381) hx hb dL_law_66 (by decide) (fun _ => ?_) (fun q => absurd (Int32.le_refl _) q)
    refine lv_iload_n hx hb dL_law_381 rfl (lv_at hl 2 rfl) ?_
    refine lv_if_eq (tgt := 396) hx hb dL_law_382 (by decide) (fun q => absurd q (by decide)) (fun _ => ?_)
    refine lv_aload_n hx hb dL_law_385 rfl (lv_at hl 1 rfl) ?_
    refine rSB (bl := WB cyC cyI cyO Z C TR SN HI Y P R BB rt sg pw rd u w h r v tu tw su sw g) (WSb := WB cyC cyI cyO Z C TR SN HI Y P R BB rt sg pw rd u w h r v tu tw su sw g) (As := [.ref (Z 0)]) (rest := []) hx hb hml hown hts hl.1 (kL_holds l D cyC cyI cyO Z C TR SN HI Y P R BB rt sg pw rd u w h r v tu tw su sw g hq (F_holds i1 (by omega) rt sg pw rd h r v tu tw su sw g)) bS_L_holds wml_RL_130 ⟨rfl, rfl⟩ ⟨Nat.le_of_ble_eq_true rfl, Nat.le_of_ble_eq_true rfl, hNC, hNS⟩ [0, 1, 2, 3, 4, 5, 6, 7] rfl rfl hP hK rfl rfl (Nat.le_of_ble_eq_true rfl) dL_law_386 ?_
    refine lv_if_eq (tgt := 396) hx hb dL_law_389 (by decide) (fun q => absurd q (by decide)) (fun _ => ?_)
    refine lv_iconst (v := 1) hx hb dL_law_392 (by decide) ?_
    refine lv_goto (tgt := 397) hx hb dL_law_393 (by decide) ?_
    refine va_forget (fun q hq => hS.2.2 q hq) ?_
    refine W.widen (k := 600000) (n := 7302250) (show NC ≤ 600000 from hNC) (show NS ≤ 7302250 from hNS) ?_
    exact W.base (lw_ret (d0 := s.drawn) (Drawn.sameBut.refl s.drawn lw_cs) hx hb hr hlocks dL_law_397)
  | succ k ih =>
    intro n hn
    have k375 := lk_375 C0 hK hNC hNS hL (n := n) (by omega) (show 2 + 120 * (n + 1) < 600000 by omega) (ih (n + 1) (by omega))
    have k326 := lk_326 C0 hK hNC hNS hL (n := n) (by omega) (by omega) k375
    have k257 := lk_257 C0 hK hNC hNS hL (n := n) (by omega) (by omega) k326
    have k207 := lk_207 C0 hK hNC hNS hL (n := n) (by omega) (by omega) k257
    have k201 := lk_201 C0 hK hNC hNS hL (n := n) (by omega) (by omega) k207
    have k151 := lk_151 C0 hK hNC hNS hL (n := n) (by omega) (by omega) k201
    have k134 := lk_134 C0 hK hNC hNS hL (n := n) (by omega) (by omega) k151
    have k69 := lk_69 C0 hK hNC hNS hL (B := 2 + 120 * n) (n := n) (by omega) (by omega) k134
    intro rt sg pw rd u w h r v tu tw su sw g kn H0 H locs hP hD hS ls hl
    refine lv_iload hx hb dL_law_62 (lv_at hl 4 rfl) ?_
    refine lv_bipush (v := 54) hx hb dL_law_64 (by decide) ?_
    refine lv_icmp_ge (tgt := 381) hx hb dL_law_66 (by decide) (fun q => absurd q (nI_ge (a := n) (b := 54) (by omega) (by omega))) (fun _ => ?_)
    exact k69 rt sg pw rd u w h r v tu tw su sw g kn H0 H locs hP hD hS ls hl
end LAWL
