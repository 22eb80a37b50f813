section LAWC
variable {p : Program} {l : Launch} {e : Env} {s : State} {m : MethodId} {below : List Frame} {meth : Method} {c : Code} {b L : Nat} {xs : Nat → Int32} {D : va_G} {cyC cyI cyO : ClassId} {Z C TR SN HI Y P R A : Nat → Nat} {BB : Nat → Nat → Nat} {NC NS i : Nat}
set_option maxHeartbeats 4000000 in
set_option maxRecDepth 100000 in
theorem lc_16 (C0 : lw_At p s m meth c b L xs) (hK : KK D cyC cyI cyO s) (hNC : NC ≤ room_1.cells) (hNS : NS ≤ room_1.slots) (hi : 5 * i + 5 ≤ L) (hL : L ≤ 2560) (rt : Nat → Int32) (sg : Nat → Nat → Int32) (pw rd : Nat → Int32) (u : Nat → Nat → Int32) (w : Nat → Int32) (h : Nat → (Nat → Nat → Int32) × (Nat → Int32)) (r : Nat) (v : Nat → Int32) (tu : Nat → Nat → Int32) (tw : Nat → Int32) (su : Nat → Nat → Int32) (sw : Nat → Int32) (g : Nat → Nat → Int32) (mm : Nat → Nat → Int32) (xx : Nat → Int32) (kn n : Nat) (H0 : RA (128 * i) rt sg pw u w h r v su sw mm xx kn n) (kk : LK p l e s m below meth c b D cyC cyI cyO Z C TR SN HI Y P R A BB NC NS i) : ∀ (H : Heap) (locs : List Loc), va_P D vwCl (List.flatten [wRt Z C TR SN HI Y P R rt, wPd cyC P sg pw, wRd R P rd, wC cyI C u w, wHM cyI cyO HI BB h r v, wC cyI TR tu tw, wC cyI SN su sw, wWy cyI Y g, wM cyI A mm xx]) H → va_D (fun q : Nat => s.heap.size ≤ q) (List.flatten [wRt Z C TR SN HI Y P R rt, wPd cyC P sg pw, wRd R P rd, wC cyI C u w, wHM cyI cyO HI BB h r v, wC cyI TR tu tw, wC cyI SN su sw, wWy cyI Y g, wM cyI A mm xx]) → va_S (fun q : Nat => s.heap.size ≤ q) s.heap H locs → ∀ (ls : Array Slot), lv_has ls 8 [(0, .ref b), (1, .ref (Z 0)), (2, .ref (A 0)), (3, .int (nI (5 * i)))] → W p l e room_1 s m (#[Value.ref b] : Array Value) below meth c H locs NC NS (lw_Z below #[Value.ref b] s) (F0 m 592 ls []) := by
  intro H locs hP hD hS ls hl
  obtain ⟨hx, hb, hr, hml, hown, hts0, hX, hbl, hlocks, hgv⟩ := C0
  have hown : s.vm.findClass RL = some m.cls := hown
  have hts : ∀ w ∈ TB, w.before (#[Value.ref b] : Array Value) s = true := fun w h => hts0 w (List.mem_filter.mp h).1
  have hA : ∀ q : Nat, s.heap.size ≤ q → (fun q : Nat => s.heap.size ≤ q) q := fun _ h => h
  have hbA : ¬ (fun q : Nat => s.heap.size ≤ q) b := Nat.not_le.mpr hbl
  obtain ⟨f_r, f_q, f_ch, f_kn, f_k, f_m3, f_ln, f_l7, f_l6, f_7, f_n⟩ := RA_facts H0
  have f_N : 128 * i < 100000000 := by omega
  have f_N2 : 128 * i < 900000 := by omega
  have f_N3 : 128 * i < 800000 := by omega
  obtain ⟨z6, hz6⟩ : ∃ q, q = (pX6_gangway rt sg pw rd u w h r v tu tw su sw g (xs (nI (5 * i) + (1 : Int32)).toNatClampNeg) (xs (nI (5 * i) + (2 : Int32)).toNatClampNeg)) := ⟨_, rfl⟩
  obtain ⟨z7, hz7⟩ : ∃ q, q = (pX7_gangway mm xx (xs (nI (5 * i) + (1 : Int32)).toNatClampNeg) (xs (nI (5 * i) + (2 : Int32)).toNatClampNeg)) := ⟨_, rfl⟩
  have Q := q_gangway (rt := rt) (sg := sg) (pw := pw) (rd := rd) (u := u) (w := w) (h := h) (r := r) (v := v) (tu := tu) (tw := tw) (su := su) (sw := sw) (g := g) H0 f_N2 (xs (nI (5 * i) + (1 : Int32)).toNatClampNeg) (xs (nI (5 * i) + (2 : Int32)).toNatClampNeg)
  rw [← hz6, ← hz7] at Q
  have Q1 := Q
  have Q2 := H0
  refine lv_aload_n hx hb dL_law_592 rfl (lv_at hl 1 rfl) ?_
  refine lv_aload_n hx hb dL_law_593 rfl (lv_at hl 0 rfl) ?_
  refine lv_iload_n hx hb dL_law_594 rfl (lv_at hl 3 rfl) ?_
  refine lv_iconst (v := 1) hx hb dL_law_595 (by decide) ?_
  refine lv_iadd hx hb dL_law_596 ?_
  refine va_sld hx hb hX hbl hbA hS (vq1 hi hL) dL_law_597 ?_
  refine lv_aload_n hx hb dL_law_598 rfl (lv_at hl 0 rfl) ?_
  refine lv_iload_n hx hb dL_law_599 rfl (lv_at hl 3 rfl) ?_
  refine lv_iconst (v := 2) hx hb dL_law_600 (by decide) ?_
  refine lv_iadd hx hb dL_law_601 ?_
  refine va_sld hx hb hX hbl hbA hS (vq2 hi hL) dL_law_602 ?_
  refine rVB (bl := [wRt Z C TR SN HI Y P R rt, wPd cyC P sg pw, wRd R P rd, wC cyI C u w, wHM cyI cyO HI BB h r v, wC cyI TR tu tw, wC cyI SN su sw, wWy cyI Y g, wM cyI A mm xx]) (WSb := [wRt Z C TR SN HI Y P R rt, wPd cyC P sg pw, wRd R P rd, wC cyI C u w, wHM cyI cyO HI BB h r v, wC cyI TR tu tw, wC cyI SN su sw, wWy cyI Y g]) (As := [.int (xs (nI (5 * i) + (1 : Int32)).toNatClampNeg), .int (xs (nI (5 * i) + (2 : Int32)).toNatClampNeg)]) (rest := []) (r := z6) hx hb hml hown hts hl.1 (WS := (List.flatten [wRt Z C TR SN HI Y P R rt, wPd cyC P sg pw, wRd R P rd, wC cyI C u w, wHM cyI cyO HI BB h r v, wC cyI TR tu tw, wC cyI SN su sw, wWy cyI Y g])) (by rw [hz6]; exact kX6_gangway l D cyC cyI cyO Z C TR SN HI Y P R BB rt sg pw rd u w h r v tu tw su sw g (xs (nI (5 * i) + (1 : Int32)).toNatClampNeg) (xs (nI (5 * i) + (2 : Int32)).toNatClampNeg) f_q) bV_X6_gangway wml_RL_81 ⟨rfl, rfl⟩ ⟨Nat.le_of_ble_eq_true rfl, Nat.le_of_ble_eq_true rfl, hNC, hNS⟩ [0, 1, 2, 3, 4, 5, 6, 7] rfl rfl hP hK 0 rfl rfl rfl rfl rfl (Nat.le_of_ble_eq_true rfl) dL_law_603 ?_
  refine lv_aload_n hx hb dL_law_606 rfl (lv_at hl 2 rfl) ?_
  refine lv_aload_n hx hb dL_law_607 rfl (lv_at hl 0 rfl) ?_
  refine lv_iload_n hx hb dL_law_608 rfl (lv_at hl 3 rfl) ?_
  refine lv_iconst (v := 1) hx hb dL_law_609 (by decide) ?_
  refine lv_iadd hx hb dL_law_610 ?_
  refine va_sld hx hb hX hbl hbA hS (vq1 hi hL) dL_law_611 ?_
  refine lv_aload_n hx hb dL_law_612 rfl (lv_at hl 0 rfl) ?_
  refine lv_iload_n hx hb dL_law_613 rfl (lv_at hl 3 rfl) ?_
  refine lv_iconst (v := 2) hx hb dL_law_614 (by decide) ?_
  refine lv_iadd hx hb dL_law_615 ?_
  refine va_sld hx hb hX hbl hbA hS (vq2 hi hL) dL_law_616 ?_
  refine rVB (bl := [wRt Z C TR SN HI Y P R rt, wPd cyC P sg pw, wRd R P rd, wC cyI C u w, wHM cyI cyO HI BB h r v, wC cyI TR tu tw, wC cyI SN su sw, wWy cyI Y g, wM cyI A mm xx]) (WSb := [wM cyI A mm xx]) (As := [.int (xs (nI (5 * i) + (1 : Int32)).toNatClampNeg), .int (xs (nI (5 * i) + (2 : Int32)).toNatClampNeg)]) (rest := [.int z6]) (r := z7) hx hb hml hown hts hl.1 (WS := (wM cyI A mm xx)) (by rw [hz7]; exact kX7_gangway l D cyC cyI cyO A mm xx (xs (nI (5 * i) + (1 : Int32)).toNatClampNeg) (xs (nI (5 * i) + (2 : Int32)).toNatClampNeg) f_m3) bV_X7_gangway wml_RL_84 ⟨rfl, rfl⟩ ⟨Nat.le_of_ble_eq_true rfl, Nat.le_of_ble_eq_true rfl, hNC, hNS⟩ [8] (by simp only [List.flatten_cons, List.flatten_nil, List.append_nil]) rfl hP hK 0 rfl rfl rfl rfl rfl (Nat.le_of_ble_eq_true rfl) dL_law_617 ?_
  refine lv_icmp_eq (tgt := 962) hx hb dL_law_620 (by decide) (fun _ => ?_) (fun q => absurd Q1 q)
  exact kk (rt) (sg) (pw) (rd) (u) (w) (h) (r) (v) (tu) (tw) (su) (sw) (g) (mm) (xx) (kn) (n) (RA_mono Q2 (by omega)) H locs hP hD hS ls (lv_sub hl [0, 1, 2, 3] rfl)
set_option maxHeartbeats 4000000 in
set_option maxRecDepth 100000 in
theorem lc_17 (C0 : lw_At p s m meth c b L xs) (hK : KK D cyC cyI cyO s) (hNC : NC ≤ room_1.cells) (hNS : NS ≤ room_1.slots) (hi : 5 * i + 5 ≤ L) (hL : L ≤ 2560) (rt : Nat → Int32) (sg : Nat → Nat → Int32) (pw rd : Nat → Int32) (u : Nat → Nat → Int32) (w : Nat → Int32) (h : Nat → (Nat → Nat → Int32) × (Nat → Int32)) (r : Nat) (v : Nat → Int32) (tu : Nat → Nat → Int32) (tw : Nat → Int32) (su : Nat → Nat → Int32) (sw : Nat → Int32) (g : Nat → Nat → Int32) (mm : Nat → Nat → Int32) (xx : Nat → Int32) (kn n : Nat) (H0 : RA (128 * i) rt sg pw u w h r v su sw mm xx kn n) (kk : LK p l e s m below meth c b D cyC cyI cyO Z C TR SN HI Y P R A BB NC NS i) : ∀ (H : Heap) (locs : List Loc), va_P D vwCl (List.flatten [wRt Z C TR SN HI Y P R rt, wPd cyC P sg pw, wRd R P rd, wC cyI C u w, wHM cyI cyO HI BB h r v, wC cyI TR tu tw, wC cyI SN su sw, wWy cyI Y g, wM cyI A mm xx]) H → va_D (fun q : Nat => s.heap.size ≤ q) (List.flatten [wRt Z C TR SN HI Y P R rt, wPd cyC P sg pw, wRd R P rd, wC cyI C u w, wHM cyI cyO HI BB h r v, wC cyI TR tu tw, wC cyI SN su sw, wWy cyI Y g, wM cyI A mm xx]) → va_S (fun q : Nat => s.heap.size ≤ q) s.heap H locs → ∀ (ls : Array Slot), lv_has ls 8 [(0, .ref b), (1, .ref (Z 0)), (2, .ref (A 0)), (3, .int (nI (5 * i)))] → W p l e room_1 s m (#[Value.ref b] : Array Value) below meth c H locs NC NS (lw_Z below #[Value.ref b] s) (F0 m 625 ls []) := by
  intro H locs hP hD hS ls hl
  obtain ⟨hx, hb, hr, hml, hown, hts0, hX, hbl, hlocks, hgv⟩ := C0
  have hown : s.vm.findClass RL = some m.cls := hown
  have hts : ∀ w ∈ TB, w.before (#[Value.ref b] : Array Value) s = true := fun w h => hts0 w (List.mem_filter.mp h).1
  have hA : ∀ q : Nat, s.heap.size ≤ q → (fun q : Nat => s.heap.size ≤ q) q := fun _ h => h
  have hbA : ¬ (fun q : Nat => s.heap.size ≤ q) b := Nat.not_le.mpr hbl
  obtain ⟨f_r, f_q, f_ch, f_kn, f_k, f_m3, f_ln, f_l7, f_l6, f_7, f_n⟩ := RA_facts H0
  have f_N : 128 * i < 100000000 := by omega
  have f_N2 : 128 * i < 900000 := by omega
  have f_N3 : 128 * i < 800000 := by omega
  obtain ⟨z6, hz6⟩ : ∃ q, q = (pX6_ownerOf rt sg pw rd u w h r v tu tw su sw g (xs (nI (5 * i) + (1 : Int32)).toNatClampNeg) (xs (nI (5 * i) + (2 : Int32)).toNatClampNeg)) := ⟨_, rfl⟩
  obtain ⟨z7, hz7⟩ : ∃ q, q = (pX7_ownerOf mm xx (xs (nI (5 * i) + (1 : Int32)).toNatClampNeg) (xs (nI (5 * i) + (2 : Int32)).toNatClampNeg)) := ⟨_, rfl⟩
  have Q := q_ownerOf (rt := rt) (sg := sg) (pw := pw) (rd := rd) (u := u) (w := w) (h := h) (r := r) (v := v) (tu := tu) (tw := tw) (su := su) (sw := sw) (g := g) H0 f_N2 (xs (nI (5 * i) + (1 : Int32)).toNatClampNeg) (xs (nI (5 * i) + (2 : Int32)).toNatClampNeg)
  rw [← hz6, ← hz7] at Q
  have Q1 := Q
  have Q2 := H0
  refine lv_aload_n hx hb dL_law_625 rfl (lv_at hl 1 rfl) ?_
  refine lv_aload_n hx hb dL_law_626 rfl (lv_at hl 0 rfl) ?_
  refine lv_iload_n hx hb dL_law_627 rfl (lv_at hl 3 rfl) ?_
  refine lv_iconst (v := 1) hx hb dL_law_628 (by decide) ?_
  refine lv_iadd hx hb dL_law_629 ?_
  refine va_sld hx hb hX hbl hbA hS (vq1 hi hL) dL_law_630 ?_
  refine lv_aload_n hx hb dL_law_631 rfl (lv_at hl 0 rfl) ?_
  refine lv_iload_n hx hb dL_law_632 rfl (lv_at hl 3 rfl) ?_
  refine lv_iconst (v := 2) hx hb dL_law_633 (by decide) ?_
  refine lv_iadd hx hb dL_law_634 ?_
  refine va_sld hx hb hX hbl hbA hS (vq2 hi hL) dL_law_635 ?_
  refine rVB (bl := [wRt Z C TR SN HI Y P R rt, wPd cyC P sg pw, wRd R P rd, wC cyI C u w, wHM cyI cyO HI BB h r v, wC cyI TR tu tw, wC cyI SN su sw, wWy cyI Y g, wM cyI A mm xx]) (WSb := [wRt Z C TR SN HI Y P R rt, wPd cyC P sg pw, wRd R P rd, wC cyI C u w, wHM cyI cyO HI BB h r v, wC cyI TR tu tw, wC cyI SN su sw, wWy cyI Y g]) (As := [.int (xs (nI (5 * i) + (1 : Int32)).toNatClampNeg), .int (xs (nI (5 * i) + (2 : Int32)).toNatClampNeg)]) (rest := []) (r := z6) hx hb hml hown hts hl.1 (WS := (List.flatten [wRt Z C TR SN HI Y P R rt, wPd cyC P sg pw, wRd R P rd, wC cyI C u w, wHM cyI cyO HI BB h r v, wC cyI TR tu tw, wC cyI SN su sw, wWy cyI Y g])) (by rw [hz6]; exact kX6_ownerOf l D cyC cyI cyO Z C TR SN HI Y P R BB rt sg pw rd u w h r v tu tw su sw g (xs (nI (5 * i) + (1 : Int32)).toNatClampNeg) (xs (nI (5 * i) + (2 : Int32)).toNatClampNeg) f_q) bV_X6_ownerOf wml_RL_85 ⟨rfl, rfl⟩ ⟨Nat.le_of_ble_eq_true rfl, Nat.le_of_ble_eq_true rfl, hNC, hNS⟩ [0, 1, 2, 3, 4, 5, 6, 7] rfl rfl hP hK 0 rfl rfl rfl rfl rfl (Nat.le_of_ble_eq_true rfl) dL_law_636 ?_
  refine lv_aload_n hx hb dL_law_639 rfl (lv_at hl 2 rfl) ?_
  refine lv_aload_n hx hb dL_law_640 rfl (lv_at hl 0 rfl) ?_
  refine lv_iload_n hx hb dL_law_641 rfl (lv_at hl 3 rfl) ?_
  refine lv_iconst (v := 1) hx hb dL_law_642 (by decide) ?_
  refine lv_iadd hx hb dL_law_643 ?_
  refine va_sld hx hb hX hbl hbA hS (vq1 hi hL) dL_law_644 ?_
  refine lv_aload_n hx hb dL_law_645 rfl (lv_at hl 0 rfl) ?_
  refine lv_iload_n hx hb dL_law_646 rfl (lv_at hl 3 rfl) ?_
  refine lv_iconst (v := 2) hx hb dL_law_647 (by decide) ?_
  refine lv_iadd hx hb dL_law_648 ?_
  refine va_sld hx hb hX hbl hbA hS (vq2 hi hL) dL_law_649 ?_
  refine rVB (bl := [wRt Z C TR SN HI Y P R rt, wPd cyC P sg pw, wRd R P rd, wC cyI C u w, wHM cyI cyO HI BB h r v, wC cyI TR tu tw, wC cyI SN su sw, wWy cyI Y g, wM cyI A mm xx]) (WSb := [wM cyI A mm xx]) (As := [.int (xs (nI (5 * i) + (1 : Int32)).toNatClampNeg), .int (xs (nI (5 * i) + (2 : Int32)).toNatClampNeg)]) (rest := [.int z6]) (r := z7) hx hb hml hown hts hl.1 (WS := (wM cyI A mm xx)) (by rw [hz7]; exact kX7_ownerOf l D cyC cyI cyO A mm xx (xs (nI (5 * i) + (1 : Int32)).toNatClampNeg) (xs (nI (5 * i) + (2 : Int32)).toNatClampNeg) f_m3) bV_X7_ownerOf wml_RL_88 ⟨rfl, rfl⟩ ⟨Nat.le_of_ble_eq_true rfl, Nat.le_of_ble_eq_true rfl, hNC, hNS⟩ [8] (by simp only [List.flatten_cons, List.flatten_nil, List.append_nil]) rfl hP hK 0 rfl rfl rfl rfl rfl (Nat.le_of_ble_eq_true rfl) dL_law_650 ?_
  refine lv_icmp_eq (tgt := 962) hx hb dL_law_653 (by decide) (fun _ => ?_) (fun q => absurd Q1 q)
  exact kk (rt) (sg) (pw) (rd) (u) (w) (h) (r) (v) (tu) (tw) (su) (sw) (g) (mm) (xx) (kn) (n) (RA_mono Q2 (by omega)) H locs hP hD hS ls (lv_sub hl [0, 1, 2, 3] rfl)
set_option maxHeartbeats 4000000 in
set_option maxRecDepth 100000 in
theorem lc_18 (C0 : lw_At p s m meth c b L xs) (hK : KK D cyC cyI cyO s) (hNC : NC ≤ room_1.cells) (hNS : NS ≤ room_1.slots) (hi : 5 * i + 5 ≤ L) (hL : L ≤ 2560) (rt : Nat → Int32) (sg : Nat → Nat → Int32) (pw rd : Nat → Int32) (u : Nat → Nat → Int32) (w : Nat → Int32) (h : Nat → (Nat → Nat → Int32) × (Nat → Int32)) (r : Nat) (v : Nat → Int32) (tu : Nat → Nat → Int32) (tw : Nat → Int32) (su : Nat → Nat → Int32) (sw : Nat → Int32) (g : Nat → Nat → Int32) (mm : Nat → Nat → Int32) (xx : Nat → Int32) (kn n : Nat) (H0 : RA (128 * i) rt sg pw u w h r v su sw mm xx kn n) (kk : LK p l e s m below meth c b D cyC cyI cyO Z C TR SN HI Y P R A BB NC NS i) : ∀ (H : Heap) (locs : List Loc), va_P D vwCl (List.flatten [wRt Z C TR SN HI Y P R rt, wPd cyC P sg pw, wRd R P rd, wC cyI C u w, wHM cyI cyO HI BB h r v, wC cyI TR tu tw, wC cyI SN su sw, wWy cyI Y g, wM cyI A mm xx]) H → va_D (fun q : Nat => s.heap.size ≤ q) (List.flatten [wRt Z C TR SN HI Y P R rt, wPd cyC P sg pw, wRd R P rd, wC cyI C u w, wHM cyI cyO HI BB h r v, wC cyI TR tu tw, wC cyI SN su sw, wWy cyI Y g, wM cyI A mm xx]) → va_S (fun q : Nat => s.heap.size ≤ q) s.heap H locs → ∀ (ls : Array Slot), lv_has ls 8 [(0, .ref b), (1, .ref (Z 0)), (2, .ref (A 0)), (3, .int (nI (5 * i)))] → W p l e room_1 s m (#[Value.ref b] : Array Value) below meth c H locs NC NS (lw_Z below #[Value.ref b] s) (F0 m 658 ls []) := by
  intro H locs hP hD hS ls hl
  obtain ⟨hx, hb, hr, hml, hown, hts0, hX, hbl, hlocks, hgv⟩ := C0
  have hown : s.vm.findClass RL = some m.cls := hown
  have hts : ∀ w ∈ TB, w.before (#[Value.ref b] : Array Value) s = true := fun w h => hts0 w (List.mem_filter.mp h).1
  have hA : ∀ q : Nat, s.heap.size ≤ q → (fun q : Nat => s.heap.size ≤ q) q := fun _ h => h
  have hbA : ¬ (fun q : Nat => s.heap.size ≤ q) b := Nat.not_le.mpr hbl
  obtain ⟨f_r, f_q, f_ch, f_kn, f_k, f_m3, f_ln, f_l7, f_l6, f_7, f_n⟩ := RA_facts H0
  have f_N : 128 * i < 100000000 := by omega
  have f_N2 : 128 * i < 900000 := by omega
  have f_N3 : 128 * i < 800000 := by omega
  obtain ⟨z6, hz6⟩ : ∃ q, q = (pX6_whyNotHang rt sg pw rd u w h r v tu tw su sw g (xs (nI (5 * i) + (1 : Int32)).toNatClampNeg) (xs (nI (5 * i) + (2 : Int32)).toNatClampNeg)) := ⟨_, rfl⟩
  obtain ⟨z7, hz7⟩ : ∃ q, q = (pX7_whyNotHang mm xx (xs (nI (5 * i) + (1 : Int32)).toNatClampNeg) (xs (nI (5 * i) + (2 : Int32)).toNatClampNeg)) := ⟨_, rfl⟩
  have Q := q_whyNotHang (rt := rt) (sg := sg) (pw := pw) (rd := rd) (u := u) (w := w) (h := h) (r := r) (v := v) (tu := tu) (tw := tw) (su := su) (sw := sw) (g := g) H0 (xs (nI (5 * i) + (1 : Int32)).toNatClampNeg) (xs (nI (5 * i) + (2 : Int32)).toNatClampNeg)
  rw [← hz6, ← hz7] at Q
  have Q1 := Q
  have Q2 := H0
  refine lv_aload_n hx hb dL_law_658 rfl (lv_at hl 1 rfl) ?_
  refine lv_aload_n hx hb dL_law_659 rfl (lv_at hl 0 rfl) ?_
  refine lv_iload_n hx hb dL_law_660 rfl (lv_at hl 3 rfl) ?_
  refine lv_iconst (v := 1) hx hb dL_law_661 (by decide) ?_
  refine lv_iadd hx hb dL_law_662 ?_
  refine va_sld hx hb hX hbl hbA hS (vq1 hi hL) dL_law_663 ?_
  refine lv_aload_n hx hb dL_law_664 rfl (lv_at hl 0 rfl) ?_
  refine lv_iload_n hx hb dL_law_665 rfl (lv_at hl 3 rfl) ?_
  refine lv_iconst (v := 2) hx hb dL_law_666 (by decide) ?_
  refine lv_iadd hx hb dL_law_667 ?_
  refine va_sld hx hb hX hbl hbA hS (vq2 hi hL) dL_law_668 ?_
  refine rVB (bl := [wRt Z C TR SN HI Y P R rt, wPd cyC P sg pw, wRd R P rd, wC cyI C u w, wHM cyI cyO HI BB h r v, wC cyI TR tu tw, wC cyI SN su sw, wWy cyI Y g, wM cyI A mm xx]) (WSb := [wRt Z C TR SN HI Y P R rt, wPd cyC P sg pw, wRd R P rd, wC cyI C u w, wHM cyI cyO HI BB h r v, wC cyI TR tu tw, wC cyI SN su sw, wWy cyI Y g]) (As := [.int (xs (nI (5 * i) + (1 : Int32)).toNatClampNeg), .int (xs (nI (5 * i) + (2 : Int32)).toNatClampNeg)]) (rest := []) (r := z6) hx hb hml hown hts hl.1 (WS := (List.flatten [wRt Z C TR SN HI Y P R rt, wPd cyC P sg pw, wRd R P rd, wC cyI C u w, wHM cyI cyO HI BB h r v, wC cyI TR tu tw, wC cyI SN su sw, wWy cyI Y g])) (by rw [hz6]; exact kX6_whyNotHang l D cyC cyI cyO Z C TR SN HI Y P R BB rt sg pw rd u w h r v tu tw su sw g (xs (nI (5 * i) + (1 : Int32)).toNatClampNeg) (xs (nI (5 * i) + (2 : Int32)).toNatClampNeg) f_q) bV_X6_whyNotHang wml_RL_89 ⟨rfl, rfl⟩ ⟨Nat.le_of_ble_eq_true rfl, Nat.le_of_ble_eq_true rfl, hNC, hNS⟩ [0, 1, 2, 3, 4, 5, 6, 7] rfl rfl hP hK 0 rfl rfl rfl rfl rfl (Nat.le_of_ble_eq_true rfl) dL_law_669 ?_
  refine lv_aload_n hx hb dL_law_672 rfl (lv_at hl 2 rfl) ?_
  refine lv_aload_n hx hb dL_law_673 rfl (lv_at hl 0 rfl) ?_
  refine lv_iload_n hx hb dL_law_674 rfl (lv_at hl 3 rfl) ?_
  refine lv_iconst (v := 1) hx hb dL_law_675 (by decide) ?_
  refine lv_iadd hx hb dL_law_676 ?_
  refine va_sld hx hb hX hbl hbA hS (vq1 hi hL) dL_law_677 ?_
  refine lv_aload_n hx hb dL_law_678 rfl (lv_at hl 0 rfl) ?_
  refine lv_iload_n hx hb dL_law_679 rfl (lv_at hl 3 rfl) ?_
  refine lv_iconst (v := 2) hx hb dL_law_680 (by decide) ?_
  refine lv_iadd hx hb dL_law_681 ?_
  refine va_sld hx hb hX hbl hbA hS (vq2 hi hL) dL_law_682 ?_
  refine rVB (bl := [wRt Z C TR SN HI Y P R rt, wPd cyC P sg pw, wRd R P rd, wC cyI C u w, wHM cyI cyO HI BB h r v, wC cyI TR tu tw, wC cyI SN su sw, wWy cyI Y g, wM cyI A mm xx]) (WSb := [wM cyI A mm xx]) (As := [.int (xs (nI (5 * i) + (1 : Int32)).toNatClampNeg), .int (xs (nI (5 * i) + (2 : Int32)).toNatClampNeg)]) (rest := [.int z6]) (r := z7) hx hb hml hown hts hl.1 (WS := (wM cyI A mm xx)) (by rw [hz7]; exact kX7_whyNotHang l D cyC cyI cyO A mm xx (xs (nI (5 * i) + (1 : Int32)).toNatClampNeg) (xs (nI (5 * i) + (2 : Int32)).toNatClampNeg) f_m3) bV_X7_whyNotHang wml_RL_92 ⟨rfl, rfl⟩ ⟨Nat.le_of_ble_eq_true rfl, Nat.le_of_ble_eq_true rfl, hNC, hNS⟩ [8] (by simp only [List.flatten_cons, List.flatten_nil, List.append_nil]) rfl hP hK 0 rfl rfl rfl rfl rfl (Nat.le_of_ble_eq_true rfl) dL_law_683 ?_
  refine lv_icmp_eq (tgt := 962) hx hb dL_law_686 (by decide) (fun _ => ?_) (fun q => absurd Q1 q)
  exact kk (rt) (sg) (pw) (rd) (u) (w) (h) (r) (v) (tu) (tw) (su) (sw) (g) (mm) (xx) (kn) (n) (RA_mono Q2 (by omega)) H locs hP hD hS ls (lv_sub hl [0, 1, 2, 3] rfl)
set_option maxHeartbeats 4000000 in
set_option maxRecDepth 100000 in
theorem lc_19 (C0 : lw_At p s m meth c b L xs) (hK : KK D cyC cyI cyO s) (hNC : NC ≤ room_1.cells) (hNS : NS ≤ room_1.slots) (hi : 5 * i + 5 ≤ L) (hL : L ≤ 2560) (rt : Nat → Int32) (sg : Nat → Nat → Int32) (pw rd : Nat → Int32) (u : Nat → Nat → Int32) (w : Nat → Int32) (h : Nat → (Nat → Nat → Int32) × (Nat → Int32)) (r : Nat) (v : Nat → Int32) (tu : Nat → Nat → Int32) (tw : Nat → Int32) (su : Nat → Nat → Int32) (sw : Nat → Int32) (g : Nat → Nat → Int32) (mm : Nat → Nat → Int32) (xx : Nat → Int32) (kn n : Nat) (H0 : RA (128 * i) rt sg pw u w h r v su sw mm xx kn n) (kk : LK p l e s m below meth c b D cyC cyI cyO Z C TR SN HI Y P R A BB NC NS i) : ∀ (H : Heap) (locs : List Loc), va_P D vwCl (List.flatten [wRt Z C TR SN HI Y P R rt, wPd cyC P sg pw, wRd R P rd, wC cyI C u w, wHM cyI cyO HI BB h r v, wC cyI TR tu tw, wC cyI SN su sw, wWy cyI Y g, wM cyI A mm xx]) H → va_D (fun q : Nat => s.heap.size ≤ q) (List.flatten [wRt Z C TR SN HI Y P R rt, wPd cyC P sg pw, wRd R P rd, wC cyI C u w, wHM cyI cyO HI BB h r v, wC cyI TR tu tw, wC cyI SN su sw, wWy cyI Y g, wM cyI A mm xx]) → va_S (fun q : Nat => s.heap.size ≤ q) s.heap H locs → ∀ (ls : Array Slot), lv_has ls 8 [(0, .ref b), (1, .ref (Z 0)), (2, .ref (A 0)), (3, .int (nI (5 * i)))] → W p l e room_1 s m (#[Value.ref b] : Array Value) below meth c H locs NC NS (lw_Z below #[Value.ref b] s) (F0 m 691 ls []) := by
  intro H locs hP hD hS ls hl
  obtain ⟨hx, hb, hr, hml, hown, hts0, hX, hbl, hlocks, hgv⟩ := C0
  have hown : s.vm.findClass RL = some m.cls := hown
  have hts : ∀ w ∈ TB, w.before (#[Value.ref b] : Array Value) s = true := fun w h => hts0 w (List.mem_filter.mp h).1
  have hA : ∀ q : Nat, s.heap.size ≤ q → (fun q : Nat => s.heap.size ≤ q) q := fun _ h => h
  have hbA : ¬ (fun q : Nat => s.heap.size ≤ q) b := Nat.not_le.mpr hbl
  obtain ⟨f_r, f_q, f_ch, f_kn, f_k, f_m3, f_ln, f_l7, f_l6, f_7, f_n⟩ := RA_facts H0
  have f_N : 128 * i < 100000000 := by omega
  have f_N2 : 128 * i < 900000 := by omega
  have f_N3 : 128 * i < 800000 := by omega
  obtain ⟨z6, hz6⟩ : ∃ q, q = (pX6_strongest rt sg pw rd u w h r v tu tw su sw g (xs (nI (5 * i) + (1 : Int32)).toNatClampNeg) (xs (nI (5 * i) + (2 : Int32)).toNatClampNeg) (xs (nI (5 * i) + (3 : Int32)).toNatClampNeg)) := ⟨_, rfl⟩
  obtain ⟨z7, hz7⟩ : ∃ q, q = (pX7_strongest mm xx (xs (nI (5 * i) + (1 : Int32)).toNatClampNeg) (xs (nI (5 * i) + (2 : Int32)).toNatClampNeg) (xs (nI (5 * i) + (3 : Int32)).toNatClampNeg)) := ⟨_, rfl⟩
  have Q := q_strongest (rt := rt) (sg := sg) (pw := pw) (rd := rd) (u := u) (w := w) (h := h) (r := r) (v := v) (tu := tu) (tw := tw) (su := su) (sw := sw) (g := g) H0 (xs (nI (5 * i) + (1 : Int32)).toNatClampNeg) (xs (nI (5 * i) + (2 : Int32)).toNatClampNeg) (xs (nI (5 * i) + (3 : Int32)).toNatClampNeg)
  rw [← hz6, ← hz7] at Q
  have Q1 := Q
  have Q2 := H0
  refine lv_aload_n hx hb dL_law_691 rfl (lv_at hl 1 rfl) ?_
  refine lv_aload_n hx hb dL_law_692 rfl (lv_at hl 0 rfl) ?_
  refine lv_iload_n hx hb dL_law_693 rfl (lv_at hl 3 rfl) ?_
  refine lv_iconst (v := 1) hx hb dL_law_694 (by decide) ?_
  refine lv_iadd hx hb dL_law_695 ?_
  refine va_sld hx hb hX hbl hbA hS (vq1 hi hL) dL_law_696 ?_
  refine lv_aload_n hx hb dL_law_697 rfl (lv_at hl 0 rfl) ?_
  refine lv_iload_n hx hb dL_law_698 rfl (lv_at hl 3 rfl) ?_
  refine lv_iconst (v := 2) hx hb dL_law_699 (by decide) ?_
  refine lv_iadd hx hb dL_law_700 ?_
  refine va_sld hx hb hX hbl hbA hS (vq2 hi hL) dL_law_701 ?_
  refine lv_aload_n hx hb dL_law_702 rfl (lv_at hl 0 rfl) ?_
  refine lv_iload_n hx hb dL_law_703 rfl (lv_at hl 3 rfl) ?_
  refine lv_iconst (v := 3) hx hb dL_law_704 (by decide) ?_
  refine lv_iadd hx hb dL_law_705 ?_
  refine va_sld hx hb hX hbl hbA hS (vq3 hi hL) dL_law_706 ?_
  refine mVB (bl := [wRt Z C TR SN HI Y P R rt, wPd cyC P sg pw, wRd R P rd, wC cyI C u w, wHM cyI cyO HI BB h r v, wC cyI TR tu tw, wC cyI SN su sw, wWy cyI Y g, wM cyI A mm xx]) (bl' := [wRt Z C TR SN HI Y P R rt, wPd cyC P sg pw, wRd R P rd, wC cyI C u w, wHM cyI cyO HI BB h r v, wC cyI TR tu tw, wC cyI SN su sw, wWy cyI Y z6.2, wM cyI A mm xx]) (WSb := [wRt Z C TR SN HI Y P R rt, wPd cyC P sg pw, wRd R P rd, wC cyI C u w, wHM cyI cyO HI BB h r v, wC cyI TR tu tw, wC cyI SN su sw, wWy cyI Y g]) (WSb' := [wRt Z C TR SN HI Y P R rt, wPd cyC P sg pw, wRd R P rd, wC cyI C u w, wHM cyI cyO HI BB h r v, wC cyI TR tu tw, wC cyI SN su sw, wWy cyI Y z6.2]) (As := [.int (xs (nI (5 * i) + (1 : Int32)).toNatClampNeg), .int (xs (nI (5 * i) + (2 : Int32)).toNatClampNeg), .int (xs (nI (5 * i) + (3 : Int32)).toNatClampNeg)]) (rest := []) hx hb hml hown hts hl.1 (WS := (List.flatten [wRt Z C TR SN HI Y P R rt, wPd cyC P sg pw, wRd R P rd, wC cyI C u w, wHM cyI cyO HI BB h r v, wC cyI TR tu tw, wC cyI SN su sw, wWy cyI Y g])) (WS' := (List.flatten [wRt Z C TR SN HI Y P R rt, wPd cyC P sg pw, wRd R P rd, wC cyI C u w, wHM cyI cyO HI BB h r v, wC cyI TR tu tw, wC cyI SN su sw, wWy cyI Y z6.2])) (ro := (some (.int z6.1))) (by rw [hz6]; exact kX6_strongest l D cyC cyI cyO Z C TR SN HI Y P R BB rt sg pw rd u w h r v tu tw su sw g (xs (nI (5 * i) + (1 : Int32)).toNatClampNeg) (xs (nI (5 * i) + (2 : Int32)).toNatClampNeg) (xs (nI (5 * i) + (3 : Int32)).toNatClampNeg) ) bV_X6_strongest wml_RL_93 ⟨rfl, rfl⟩ ⟨Nat.le_of_ble_eq_true rfl, Nat.le_of_ble_eq_true rfl, hNC, hNS⟩ [0, 1, 2, 3, 4, 5, 6, 7] rfl rfl rfl rfl rfl rfl rfl hP hD hS hA hK 0 rfl rfl rfl rfl rfl (Nat.le_of_ble_eq_true rfl) dL_law_707 (fun H locs hP hD hS => ?_)
  refine lv_aload_n hx hb dL_law_710 rfl (lv_at hl 2 rfl) ?_
  refine lv_aload_n hx hb dL_law_711 rfl (lv_at hl 0 rfl) ?_
  refine lv_iload_n hx hb dL_law_712 rfl (lv_at hl 3 rfl) ?_
  refine lv_iconst (v := 1) hx hb dL_law_713 (by decide) ?_
  refine lv_iadd hx hb dL_law_714 ?_
  refine va_sld hx hb hX hbl hbA hS (vq1 hi hL) dL_law_715 ?_
  refine lv_aload_n hx hb dL_law_716 rfl (lv_at hl 0 rfl) ?_
  refine lv_iload_n hx hb dL_law_717 rfl (lv_at hl 3 rfl) ?_
  refine lv_iconst (v := 2) hx hb dL_law_718 (by decide) ?_
  refine lv_iadd hx hb dL_law_719 ?_
  refine va_sld hx hb hX hbl hbA hS (vq2 hi hL) dL_law_720 ?_
  refine lv_aload_n hx hb dL_law_721 rfl (lv_at hl 0 rfl) ?_
  refine lv_iload_n hx hb dL_law_722 rfl (lv_at hl 3 rfl) ?_
  refine lv_iconst (v := 3) hx hb dL_law_723 (by decide) ?_
  refine lv_iadd hx hb dL_law_724 ?_
  refine va_sld hx hb hX hbl hbA hS (vq3 hi hL) dL_law_725 ?_
  refine rVB (bl := [wRt Z C TR SN HI Y P R rt, wPd cyC P sg pw, wRd R P rd, wC cyI C u w, wHM cyI cyO HI BB h r v, wC cyI TR tu tw, wC cyI SN su sw, wWy cyI Y z6.2, wM cyI A mm xx]) (WSb := [wM cyI A mm xx]) (As := [.int (xs (nI (5 * i) + (1 : Int32)).toNatClampNeg), .int (xs (nI (5 * i) + (2 : Int32)).toNatClampNeg), .int (xs (nI (5 * i) + (3 : Int32)).toNatClampNeg)]) (rest := [.int z6.1]) (r := z7) hx hb hml hown hts hl.1 (WS := (wM cyI A mm xx)) (by rw [hz7]; exact kX7_strongest l D cyC cyI cyO A mm xx (xs (nI (5 * i) + (1 : Int32)).toNatClampNeg) (xs (nI (5 * i) + (2 : Int32)).toNatClampNeg) (xs (nI (5 * i) + (3 : Int32)).toNatClampNeg) ) bV_X7_strongest wml_RL_97 ⟨rfl, rfl⟩ ⟨Nat.le_of_ble_eq_true rfl, Nat.le_of_ble_eq_true rfl, hNC, hNS⟩ [8] (by simp only [List.flatten_cons, List.flatten_nil, List.append_nil]) rfl hP hK 0 rfl rfl rfl rfl rfl (Nat.le_of_ble_eq_true rfl) dL_law_726 ?_
  refine lv_icmp_eq (tgt := 962) hx hb dL_law_729 (by decide) (fun _ => ?_) (fun q => absurd Q1 q)
  exact kk (rt) (sg) (pw) (rd) (u) (w) (h) (r) (v) (tu) (tw) (su) (sw) (z6.2) (mm) (xx) (kn) (n) (RA_mono Q2 (by omega)) H locs hP hD hS ls (lv_sub hl [0, 1, 2, 3] rfl)
set_option maxHeartbeats 4000000 in
set_option maxRecDepth 100000 in
theorem lc_20 (C0 : lw_At p s m meth c b L xs) (hK : KK D cyC cyI cyO s) (hNC : NC ≤ room_1.cells) (hNS : NS ≤ room_1.slots) (hi : 5 * i + 5 ≤ L) (hL : L ≤ 2560) (rt : Nat → Int32) (sg : Nat → Nat → Int32) (pw rd : Nat → Int32) (u : Nat → Nat → Int32) (w : Nat → Int32) (h : Nat → (Nat → Nat → Int32) × (Nat → Int32)) (r : Nat) (v : Nat → Int32) (tu : Nat → Nat → Int32) (tw : Nat → Int32) (su : Nat → Nat → Int32) (sw : Nat → Int32) (g : Nat → Nat → Int32) (mm : Nat → Nat → Int32) (xx : Nat → Int32) (kn n : Nat) (H0 : RA (128 * i) rt sg pw u w h r v su sw mm xx kn n) (kk : LK p l e s m below meth c b D cyC cyI cyO Z C TR SN HI Y P R A BB NC NS i) : ∀ (H : Heap) (locs : List Loc), va_P D vwCl (List.flatten [wRt Z C TR SN HI Y P R rt, wPd cyC P sg pw, wRd R P rd, wC cyI C u w, wHM cyI cyO HI BB h r v, wC cyI TR tu tw, wC cyI SN su sw, wWy cyI Y g, wM cyI A mm xx]) H → va_D (fun q : Nat => s.heap.size ≤ q) (List.flatten [wRt Z C TR SN HI Y P R rt, wPd cyC P sg pw, wRd R P rd, wC cyI C u w, wHM cyI cyO HI BB h r v, wC cyI TR tu tw, wC cyI SN su sw, wWy cyI Y g, wM cyI A mm xx]) → va_S (fun q : Nat => s.heap.size ≤ q) s.heap H locs → ∀ (ls : Array Slot), lv_has ls 8 [(0, .ref b), (1, .ref (Z 0)), (2, .ref (A 0)), (3, .int (nI (5 * i)))] → W p l e room_1 s m (#[Value.ref b] : Array Value) below meth c H locs NC NS (lw_Z below #[Value.ref b] s) (F0 m 734 ls []) := by
  intro H locs hP hD hS ls hl
  obtain ⟨hx, hb, hr, hml, hown, hts0, hX, hbl, hlocks, hgv⟩ := C0
  have hown : s.vm.findClass RL = some m.cls := hown
  have hts : ∀ w ∈ TB, w.before (#[Value.ref b] : Array Value) s = true := fun w h => hts0 w (List.mem_filter.mp h).1
  have hA : ∀ q : Nat, s.heap.size ≤ q → (fun q : Nat => s.heap.size ≤ q) q := fun _ h => h
  have hbA : ¬ (fun q : Nat => s.heap.size ≤ q) b := Nat.not_le.mpr hbl
  obtain ⟨f_r, f_q, f_ch, f_kn, f_k, f_m3, f_ln, f_l7, f_l6, f_7, f_n⟩ := RA_facts H0
  have f_N : 128 * i < 100000000 := by omega
  have f_N2 : 128 * i < 900000 := by omega
  have f_N3 : 128 * i < 800000 := by omega
  obtain ⟨z6, hz6⟩ : ∃ q, q = (pX6_steps rt sg pw rd u w h r v tu tw su sw g (xs (nI (5 * i) + (1 : Int32)).toNatClampNeg) (xs (nI (5 * i) + (2 : Int32)).toNatClampNeg)) := ⟨_, rfl⟩
  obtain ⟨z7, hz7⟩ : ∃ q, q = (pX7_steps mm xx (xs (nI (5 * i) + (1 : Int32)).toNatClampNeg) (xs (nI (5 * i) + (2 : Int32)).toNatClampNeg)) := ⟨_, rfl⟩
  have Q := q_steps (rt := rt) (sg := sg) (pw := pw) (rd := rd) (u := u) (w := w) (h := h) (r := r) (v := v) (tu := tu) (tw := tw) (su := su) (sw := sw) (g := g) H0 (xs (nI (5 * i) + (1 : Int32)).toNatClampNeg) (xs (nI (5 * i) + (2 : Int32)).toNatClampNeg)
  rw [← hz6, ← hz7] at Q
  have Q1 := Q
  have Q2 := H0
  refine lv_aload_n hx hb dL_law_734 rfl (lv_at hl 1 rfl) ?_
  refine lv_aload_n hx hb dL_law_735 rfl (lv_at hl 0 rfl) ?_
  refine lv_iload_n hx hb dL_law_736 rfl (lv_at hl 3 rfl) ?_
  refine lv_iconst (v := 1) hx hb dL_law_737 (by decide) ?_
  refine lv_iadd hx hb dL_law_738 ?_
  refine va_sld hx hb hX hbl hbA hS (vq1 hi hL) dL_law_739 ?_
  refine lv_aload_n hx hb dL_law_740 rfl (lv_at hl 0 rfl) ?_
  refine lv_iload_n hx hb dL_law_741 rfl (lv_at hl 3 rfl) ?_
  refine lv_iconst (v := 2) hx hb dL_law_742 (by decide) ?_
  refine lv_iadd hx hb dL_law_743 ?_
  refine va_sld hx hb hX hbl hbA hS (vq2 hi hL) dL_law_744 ?_
  refine rVB (bl := [wRt Z C TR SN HI Y P R rt, wPd cyC P sg pw, wRd R P rd, wC cyI C u w, wHM cyI cyO HI BB h r v, wC cyI TR tu tw, wC cyI SN su sw, wWy cyI Y g, wM cyI A mm xx]) (WSb := [wRt Z C TR SN HI Y P R rt, wPd cyC P sg pw, wRd R P rd, wC cyI C u w, wHM cyI cyO HI BB h r v, wC cyI TR tu tw, wC cyI SN su sw, wWy cyI Y g]) (As := [.int (xs (nI (5 * i) + (1 : Int32)).toNatClampNeg), .int (xs (nI (5 * i) + (2 : Int32)).toNatClampNeg)]) (rest := []) (r := z6) hx hb hml hown hts hl.1 (WS := (List.flatten [wRt Z C TR SN HI Y P R rt, wPd cyC P sg pw, wRd R P rd, wC cyI C u w, wHM cyI cyO HI BB h r v, wC cyI TR tu tw, wC cyI SN su sw, wWy cyI Y g])) (by rw [hz6]; exact kX6_steps l D cyC cyI cyO Z C TR SN HI Y P R BB rt sg pw rd u w h r v tu tw su sw g (xs (nI (5 * i) + (1 : Int32)).toNatClampNeg) (xs (nI (5 * i) + (2 : Int32)).toNatClampNeg) ) bV_X6_steps wml_RL_98 ⟨rfl, rfl⟩ ⟨Nat.le_of_ble_eq_true rfl, Nat.le_of_ble_eq_true rfl, hNC, hNS⟩ [0, 1, 2, 3, 4, 5, 6, 7] rfl rfl hP hK 0 rfl rfl rfl rfl rfl (Nat.le_of_ble_eq_true rfl) dL_law_745 ?_
  refine lv_aload_n hx hb dL_law_748 rfl (lv_at hl 2 rfl) ?_
  refine lv_aload_n hx hb dL_law_749 rfl (lv_at hl 0 rfl) ?_
  refine lv_iload_n hx hb dL_law_750 rfl (lv_at hl 3 rfl) ?_
  refine lv_iconst (v := 1) hx hb dL_law_751 (by decide) ?_
  refine lv_iadd hx hb dL_law_752 ?_
  refine va_sld hx hb hX hbl hbA hS (vq1 hi hL) dL_law_753 ?_
  refine lv_aload_n hx hb dL_law_754 rfl (lv_at hl 0 rfl) ?_
  refine lv_iload_n hx hb dL_law_755 rfl (lv_at hl 3 rfl) ?_
  refine lv_iconst (v := 2) hx hb dL_law_756 (by decide) ?_
  refine lv_iadd hx hb dL_law_757 ?_
  refine va_sld hx hb hX hbl hbA hS (vq2 hi hL) dL_law_758 ?_
  refine rVB (bl := [wRt Z C TR SN HI Y P R rt, wPd cyC P sg pw, wRd R P rd, wC cyI C u w, wHM cyI cyO HI BB h r v, wC cyI TR tu tw, wC cyI SN su sw, wWy cyI Y g, wM cyI A mm xx]) (WSb := [wM cyI A mm xx]) (As := [.int (xs (nI (5 * i) + (1 : Int32)).toNatClampNeg), .int (xs (nI (5 * i) + (2 : Int32)).toNatClampNeg)]) (rest := [.int z6]) (r := z7) hx hb hml hown hts hl.1 (WS := (wM cyI A mm xx)) (by rw [hz7]; exact kX7_steps l D cyC cyI cyO A mm xx (xs (nI (5 * i) + (1 : Int32)).toNatClampNeg) (xs (nI (5 * i) + (2 : Int32)).toNatClampNeg) ) bV_X7_steps wml_RL_101 ⟨rfl, rfl⟩ ⟨Nat.le_of_ble_eq_true rfl, Nat.le_of_ble_eq_true rfl, hNC, hNS⟩ [8] (by simp only [List.flatten_cons, List.flatten_nil, List.append_nil]) rfl hP hK 0 rfl rfl rfl rfl rfl (Nat.le_of_ble_eq_true rfl) dL_law_759 ?_
  refine lv_icmp_eq (tgt := 962) hx hb dL_law_762 (by decide) (fun _ => ?_) (fun q => absurd Q1 q)
  exact kk (rt) (sg) (pw) (rd) (u) (w) (h) (r) (v) (tu) (tw) (su) (sw) (g) (mm) (xx) (kn) (n) (RA_mono Q2 (by omega)) H locs hP hD hS ls (lv_sub hl [0, 1, 2, 3] rfl)
set_option maxHeartbeats 4000000 in
set_option maxRecDepth 100000 in
theorem lc_21 (C0 : lw_At p s m meth c b L xs) (hK : KK D cyC cyI cyO s) (hNC : NC ≤ room_1.cells) (hNS : NS ≤ room_1.slots) (hi : 5 * i + 5 ≤ L) (hL : L ≤ 2560) (rt : Nat → Int32) (sg : Nat → Nat → Int32) (pw rd : Nat → Int32) (u : Nat → Nat → Int32) (w : Nat → Int32) (h : Nat → (Nat → Nat → Int32) × (Nat → Int32)) (r : Nat) (v : Nat → Int32) (tu : Nat → Nat → Int32) (tw : Nat → Int32) (su : Nat → Nat → Int32) (sw : Nat → Int32) (g : Nat → Nat → Int32) (mm : Nat → Nat → Int32) (xx : Nat → Int32) (kn n : Nat) (H0 : RA (128 * i) rt sg pw u w h r v su sw mm xx kn n) (kk : LK p l e s m below meth c b D cyC cyI cyO Z C TR SN HI Y P R A BB NC NS i) : ∀ (H : Heap) (locs : List Loc), va_P D vwCl (List.flatten [wRt Z C TR SN HI Y P R rt, wPd cyC P sg pw, wRd R P rd, wC cyI C u w, wHM cyI cyO HI BB h r v, wC cyI TR tu tw, wC cyI SN su sw, wWy cyI Y g, wM cyI A mm xx]) H → va_D (fun q : Nat => s.heap.size ≤ q) (List.flatten [wRt Z C TR SN HI Y P R rt, wPd cyC P sg pw, wRd R P rd, wC cyI C u w, wHM cyI cyO HI BB h r v, wC cyI TR tu tw, wC cyI SN su sw, wWy cyI Y g, wM cyI A mm xx]) → va_S (fun q : Nat => s.heap.size ≤ q) s.heap H locs → ∀ (ls : Array Slot), lv_has ls 8 [(0, .ref b), (1, .ref (Z 0)), (2, .ref (A 0)), (3, .int (nI (5 * i)))] → W p l e room_1 s m (#[Value.ref b] : Array Value) below meth c H locs NC NS (lw_Z below #[Value.ref b] s) (F0 m 767 ls []) := by
  intro H locs hP hD hS ls hl
  obtain ⟨hx, hb, hr, hml, hown, hts0, hX, hbl, hlocks, hgv⟩ := C0
  have hown : s.vm.findClass RL = some m.cls := hown
  have hts : ∀ w ∈ TB, w.before (#[Value.ref b] : Array Value) s = true := fun w h => hts0 w (List.mem_filter.mp h).1
  have hA : ∀ q : Nat, s.heap.size ≤ q → (fun q : Nat => s.heap.size ≤ q) q := fun _ h => h
  have hbA : ¬ (fun q : Nat => s.heap.size ≤ q) b := Nat.not_le.mpr hbl
  obtain ⟨f_r, f_q, f_ch, f_kn, f_k, f_m3, f_ln, f_l7, f_l6, f_7, f_n⟩ := RA_facts H0
  have f_N : 128 * i < 100000000 := by omega
  have f_N2 : 128 * i < 900000 := by omega
  have f_N3 : 128 * i < 800000 := by omega
  obtain ⟨z6, hz6⟩ : ∃ q, q = (pX6_count rt sg pw rd u w h r v tu tw su sw g (xs (nI (5 * i) + (1 : Int32)).toNatClampNeg)) := ⟨_, rfl⟩
  obtain ⟨z7, hz7⟩ : ∃ q, q = (pX7_count mm xx (xs (nI (5 * i) + (1 : Int32)).toNatClampNeg)) := ⟨_, rfl⟩
  have Q := q_count (rt := rt) (sg := sg) (pw := pw) (rd := rd) (u := u) (w := w) (h := h) (r := r) (v := v) (tu := tu) (tw := tw) (su := su) (sw := sw) (g := g) H0 f_N2 (xs (nI (5 * i) + (1 : Int32)).toNatClampNeg)
  rw [← hz6, ← hz7] at Q
  have Q1 := Q
  have Q2 := H0
  refine lv_aload_n hx hb dL_law_767 rfl (lv_at hl 1 rfl) ?_
  refine lv_aload_n hx hb dL_law_768 rfl (lv_at hl 0 rfl) ?_
  refine lv_iload_n hx hb dL_law_769 rfl (lv_at hl 3 rfl) ?_
  refine lv_iconst (v := 1) hx hb dL_law_770 (by decide) ?_
  refine lv_iadd hx hb dL_law_771 ?_
  refine va_sld hx hb hX hbl hbA hS (vq1 hi hL) dL_law_772 ?_
  refine rVB (bl := [wRt Z C TR SN HI Y P R rt, wPd cyC P sg pw, wRd R P rd, wC cyI C u w, wHM cyI cyO HI BB h r v, wC cyI TR tu tw, wC cyI SN su sw, wWy cyI Y g, wM cyI A mm xx]) (WSb := [wRt Z C TR SN HI Y P R rt, wPd cyC P sg pw, wRd R P rd, wC cyI C u w, wHM cyI cyO HI BB h r v, wC cyI TR tu tw, wC cyI SN su sw, wWy cyI Y g]) (As := [.int (xs (nI (5 * i) + (1 : Int32)).toNatClampNeg)]) (rest := []) (r := z6) hx hb hml hown hts hl.1 (WS := (List.flatten [wRt Z C TR SN HI Y P R rt, wPd cyC P sg pw, wRd R P rd, wC cyI C u w, wHM cyI cyO HI BB h r v, wC cyI TR tu tw, wC cyI SN su sw, wWy cyI Y g])) (by rw [hz6]; exact kX6_count l D cyC cyI cyO Z C TR SN HI Y P R BB rt sg pw rd u w h r v tu tw su sw g (xs (nI (5 * i) + (1 : Int32)).toNatClampNeg) f_q) bV_X6_count wml_RL_102 ⟨rfl, rfl⟩ ⟨Nat.le_of_ble_eq_true rfl, Nat.le_of_ble_eq_true rfl, hNC, hNS⟩ [0, 1, 2, 3, 4, 5, 6, 7] rfl rfl hP hK 0 rfl rfl rfl rfl rfl (Nat.le_of_ble_eq_true rfl) dL_law_773 ?_
  refine lv_aload_n hx hb dL_law_776 rfl (lv_at hl 2 rfl) ?_
  refine lv_aload_n hx hb dL_law_777 rfl (lv_at hl 0 rfl) ?_
  refine lv_iload_n hx hb dL_law_778 rfl (lv_at hl 3 rfl) ?_
  refine lv_iconst (v := 1) hx hb dL_law_779 (by decide) ?_
  refine lv_iadd hx hb dL_law_780 ?_
  refine va_sld hx hb hX hbl hbA hS (vq1 hi hL) dL_law_781 ?_
  refine rVB (bl := [wRt Z C TR SN HI Y P R rt, wPd cyC P sg pw, wRd R P rd, wC cyI C u w, wHM cyI cyO HI BB h r v, wC cyI TR tu tw, wC cyI SN su sw, wWy cyI Y g, wM cyI A mm xx]) (WSb := [wM cyI A mm xx]) (As := [.int (xs (nI (5 * i) + (1 : Int32)).toNatClampNeg)]) (rest := [.int z6]) (r := z7) hx hb hml hown hts hl.1 (WS := (wM cyI A mm xx)) (by rw [hz7]; exact kX7_count l D cyC cyI cyO A mm xx (xs (nI (5 * i) + (1 : Int32)).toNatClampNeg) f_m3) bV_X7_count wml_RL_105 ⟨rfl, rfl⟩ ⟨Nat.le_of_ble_eq_true rfl, Nat.le_of_ble_eq_true rfl, hNC, hNS⟩ [8] (by simp only [List.flatten_cons, List.flatten_nil, List.append_nil]) rfl hP hK 0 rfl rfl rfl rfl rfl (Nat.le_of_ble_eq_true rfl) dL_law_782 ?_
  refine lv_icmp_eq (tgt := 962) hx hb dL_law_785 (by decide) (fun _ => ?_) (fun q => absurd Q1 q)
  exact kk (rt) (sg) (pw) (rd) (u) (w) (h) (r) (v) (tu) (tw) (su) (sw) (g) (mm) (xx) (kn) (n) (RA_mono Q2 (by omega)) H locs hP hD hS ls (lv_sub hl [0, 1, 2, 3] rfl)
set_option maxHeartbeats 4000000 in
set_option maxRecDepth 100000 in
theorem lc_22 (C0 : lw_At p s m meth c b L xs) (hK : KK D cyC cyI cyO s) (hNC : NC ≤ room_1.cells) (hNS : NS ≤ room_1.slots) (hi : 5 * i + 5 ≤ L) (hL : L ≤ 2560) (rt : Nat → Int32) (sg : Nat → Nat → Int32) (pw rd : Nat → Int32) (u : Nat → Nat → Int32) (w : Nat → Int32) (h : Nat → (Nat → Nat → Int32) × (Nat → Int32)) (r : Nat) (v : Nat → Int32) (tu : Nat → Nat → Int32) (tw : Nat → Int32) (su : Nat → Nat → Int32) (sw : Nat → Int32) (g : Nat → Nat → Int32) (mm : Nat → Nat → Int32) (xx : Nat → Int32) (kn n : Nat) (H0 : RA (128 * i) rt sg pw u w h r v su sw mm xx kn n) (kk : LK p l e s m below meth c b D cyC cyI cyO Z C TR SN HI Y P R A BB NC NS i) : ∀ (H : Heap) (locs : List Loc), va_P D vwCl (List.flatten [wRt Z C TR SN HI Y P R rt, wPd cyC P sg pw, wRd R P rd, wC cyI C u w, wHM cyI cyO HI BB h r v, wC cyI TR tu tw, wC cyI SN su sw, wWy cyI Y g, wM cyI A mm xx]) H → va_D (fun q : Nat => s.heap.size ≤ q) (List.flatten [wRt Z C TR SN HI Y P R rt, wPd cyC P sg pw, wRd R P rd, wC cyI C u w, wHM cyI cyO HI BB h r v, wC cyI TR tu tw, wC cyI SN su sw, wWy cyI Y g, wM cyI A mm xx]) → va_S (fun q : Nat => s.heap.size ≤ q) s.heap H locs → ∀ (ls : Array Slot), lv_has ls 8 [(0, .ref b), (1, .ref (Z 0)), (2, .ref (A 0)), (3, .int (nI (5 * i)))] → W p l e room_1 s m (#[Value.ref b] : Array Value) below meth c H locs NC NS (lw_Z below #[Value.ref b] s) (F0 m 790 ls []) := by
  intro H locs hP hD hS ls hl
  obtain ⟨hx, hb, hr, hml, hown, hts0, hX, hbl, hlocks, hgv⟩ := C0
  have hown : s.vm.findClass RL = some m.cls := hown
  have hts : ∀ w ∈ TB, w.before (#[Value.ref b] : Array Value) s = true := fun w h => hts0 w (List.mem_filter.mp h).1
  have hA : ∀ q : Nat, s.heap.size ≤ q → (fun q : Nat => s.heap.size ≤ q) q := fun _ h => h
  have hbA : ¬ (fun q : Nat => s.heap.size ≤ q) b := Nat.not_le.mpr hbl
  obtain ⟨f_r, f_q, f_ch, f_kn, f_k, f_m3, f_ln, f_l7, f_l6, f_7, f_n⟩ := RA_facts H0
  have f_N : 128 * i < 100000000 := by omega
  have f_N2 : 128 * i < 900000 := by omega
  have f_N3 : 128 * i < 800000 := by omega
  obtain ⟨z6, hz6⟩ : ∃ q, q = (pX6_cleanness rt sg pw rd u w h r v tu tw su sw g) := ⟨_, rfl⟩
  obtain ⟨z7, hz7⟩ : ∃ q, q = (pX7_cleanness mm xx) := ⟨_, rfl⟩
  have Q := q_cleanness (rt := rt) (sg := sg) (pw := pw) (rd := rd) (u := u) (w := w) (h := h) (r := r) (v := v) (tu := tu) (tw := tw) (su := su) (sw := sw) (g := g) H0 f_N2
  rw [← hz6, ← hz7] at Q
  obtain ⟨Q1, Q3, f_ne6, f_ne7⟩ := Q
  have Q2 := H0
  refine lv_aload_n hx hb dL_law_790 rfl (lv_at hl 1 rfl) ?_
  refine rdVB (bl := [wRt Z C TR SN HI Y P R rt, wPd cyC P sg pw, wRd R P rd, wC cyI C u w, wHM cyI cyO HI BB h r v, wC cyI TR tu tw, wC cyI SN su sw, wWy cyI Y g, wM cyI A mm xx]) (WSb := [wRt Z C TR SN HI Y P R rt, wPd cyC P sg pw, wRd R P rd, wC cyI C u w, wHM cyI cyO HI BB h r v, wC cyI TR tu tw, wC cyI SN su sw, wWy cyI Y g]) (As := []) (rest := []) (r := z6) hx hb hml hown hts hl.1 (WS := (List.flatten [wRt Z C TR SN HI Y P R rt, wPd cyC P sg pw, wRd R P rd, wC cyI C u w, wHM cyI cyO HI BB h r v, wC cyI TR tu tw, wC cyI SN su sw, wWy cyI Y g])) (by rw [hz6]; exact kX6_cleanness l D cyC cyI cyO Z C TR SN HI Y P R BB rt sg pw rd u w h r v tu tw su sw g f_ne6) bV_X6_cleanness wml_RL_106 ⟨rfl, rfl⟩ ⟨Nat.le_of_ble_eq_true rfl, Nat.le_of_ble_eq_true rfl, hNC, hNS⟩ [0, 1, 2, 3, 4, 5, 6, 7] rfl rfl hP hK 0 rfl rfl rfl rfl rfl (Nat.le_of_ble_eq_true rfl) dL_law_791 ?_
  refine lv_dstore (lv' := [(4, .double z6), (0, .ref b), (1, .ref (Z 0)), (2, .ref (A 0)), (3, .int (nI (5 * i)))]) hx hb dL_law_794 hl (by decide) rfl (fun ls hl => ?_)
  refine lv_aload_n hx hb dL_law_796 rfl (lv_at hl 3 rfl) ?_
  refine rdVB (bl := [wRt Z C TR SN HI Y P R rt, wPd cyC P sg pw, wRd R P rd, wC cyI C u w, wHM cyI cyO HI BB h r v, wC cyI TR tu tw, wC cyI SN su sw, wWy cyI Y g, wM cyI A mm xx]) (WSb := [wM cyI A mm xx]) (As := []) (rest := []) (r := z7) hx hb hml hown hts hl.1 (WS := (wM cyI A mm xx)) (by rw [hz7]; exact kX7_cleanness l D cyC cyI cyO A mm xx f_ne7) bV_X7_cleanness wml_RL_110 ⟨rfl, rfl⟩ ⟨Nat.le_of_ble_eq_true rfl, Nat.le_of_ble_eq_true rfl, hNC, hNS⟩ [8] (by simp only [List.flatten_cons, List.flatten_nil, List.append_nil]) rfl hP hK 0 rfl rfl rfl rfl rfl (Nat.le_of_ble_eq_true rfl) dL_law_797 ?_
  refine lv_dstore (lv' := [(6, .double z7), (4, .double z6), (0, .ref b), (1, .ref (Z 0)), (2, .ref (A 0)), (3, .int (nI (5 * i)))]) hx hb dL_law_800 hl (by decide) rfl (fun ls hl => ?_)
  refine lv_dload hx hb dL_law_802 (lv_at hl 1 rfl) ?_
  refine lv_dload hx hb dL_law_804 (lv_at hl 0 rfl) ?_
  refine lv_dcmp hx hb dL_law_806 ?_
  rw [Q1, Q3]
  refine lv_if_eq (tgt := 828) hx hb dL_law_807 (by decide) (fun _ => ?_) (fun q => absurd rfl q)
  refine lv_goto (tgt := 962) hx hb dL_law_828 (by decide) ?_
  exact kk (rt) (sg) (pw) (rd) (u) (w) (h) (r) (v) (tu) (tw) (su) (sw) (g) (mm) (xx) (kn) (n) (RA_mono Q2 (by omega)) H locs hP hD hS ls (lv_sub hl [2, 3, 4, 5] rfl)
end LAWC
