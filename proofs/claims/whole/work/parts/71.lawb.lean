section LAWC
variable {p : Program} {l : Launch} {e : Env} {s : State} {m : MethodId} {below : List Frame} {meth : Method} {c : Code} {b L : Nat} {xs : Nat → Int32} {D : va_G} {cyC cyI cyO : ClassId} {Z C TR SN HI Y P R A : Nat → Nat} {BB : Nat → Nat → Nat} {NC NS i : Nat}
set_option maxHeartbeats 4000000 in
set_option maxRecDepth 100000 in
theorem lc_8 (C0 : lw_At p s m meth c b L xs) (hK : KK D cyC cyI cyO s) (hNC : NC ≤ room_1.cells) (hNS : NS ≤ room_1.slots) (hi : 5 * i + 5 ≤ L) (hL : L ≤ 2560) (rt : Nat → Int32) (sg : Nat → Nat → Int32) (pw rd : Nat → Int32) (u : Nat → Nat → Int32) (w : Nat → Int32) (h : Nat → (Nat → Nat → Int32) × (Nat → Int32)) (r : Nat) (v : Nat → Int32) (tu : Nat → Nat → Int32) (tw : Nat → Int32) (su : Nat → Nat → Int32) (sw : Nat → Int32) (g : Nat → Nat → Int32) (mm : Nat → Nat → Int32) (xx : Nat → Int32) (kn n : Nat) (H0 : RA (128 * i) rt sg pw u w h r v su sw mm xx kn n) (kk : LK p l e s m below meth c b D cyC cyI cyO Z C TR SN HI Y P R A BB NC NS i) : ∀ (H : Heap) (locs : List Loc), va_P D vwCl (List.flatten [wRt Z C TR SN HI Y P R rt, wPd cyC P sg pw, wRd R P rd, wC cyI C u w, wHM cyI cyO HI BB h r v, wC cyI TR tu tw, wC cyI SN su sw, wWy cyI Y g, wM cyI A mm xx]) H → va_D (fun q : Nat => s.heap.size ≤ q) (List.flatten [wRt Z C TR SN HI Y P R rt, wPd cyC P sg pw, wRd R P rd, wC cyI C u w, wHM cyI cyO HI BB h r v, wC cyI TR tu tw, wC cyI SN su sw, wWy cyI Y g, wM cyI A mm xx]) → va_S (fun q : Nat => s.heap.size ≤ q) s.heap H locs → ∀ (ls : Array Slot), lv_has ls 8 [(0, .ref b), (1, .ref (Z 0)), (2, .ref (A 0)), (3, .int (nI (5 * i)))] → W p l e room_1 s m (#[Value.ref b] : Array Value) below meth c H locs NC NS (lw_Z below #[Value.ref b] s) (F0 m 428 ls []) := by
  intro H locs hP hD hS ls hl
  obtain ⟨hx, hb, hr, hml, hown, hts0, hX, hbl, hlocks, hgv⟩ := C0
  have hown : s.vm.findClass RL = some m.cls := hown
  have hts : ∀ w ∈ TB, w.before (#[Value.ref b] : Array Value) s = true := fun w h => hts0 w (List.mem_filter.mp h).1
  have hA : ∀ q : Nat, s.heap.size ≤ q → (fun q : Nat => s.heap.size ≤ q) q := fun _ h => h
  have hbA : ¬ (fun q : Nat => s.heap.size ≤ q) b := Nat.not_le.mpr hbl
  obtain ⟨f_r, f_q, f_ch, f_kn, f_k, f_m3, f_ln, f_l7, f_l6, f_7, f_n⟩ := RA_facts H0
  have f_N : 128 * i < 100000000 := by omega
  have f_N2 : 128 * i < 900000 := by omega
  have f_N3 : 128 * i < 800000 := by omega
  obtain ⟨z6, hz6⟩ : ∃ q, q = (pX6_walk rt sg pw rd u w h r v tu tw su sw g (xs (nI (5 * i) + (1 : Int32)).toNatClampNeg) (xs (nI (5 * i) + (2 : Int32)).toNatClampNeg)) := ⟨_, rfl⟩
  obtain ⟨z7, hz7⟩ : ∃ q, q = (pX7_walk mm xx (xs (nI (5 * i) + (1 : Int32)).toNatClampNeg) (xs (nI (5 * i) + (2 : Int32)).toNatClampNeg) kn) := ⟨_, rfl⟩
  have Q := q_walk (rt := rt) (sg := sg) (pw := pw) (rd := rd) (u := u) (w := w) (h := h) (r := r) (v := v) (tu := tu) (tw := tw) (su := su) (sw := sw) (g := g) H0 (xs (nI (5 * i) + (1 : Int32)).toNatClampNeg) (xs (nI (5 * i) + (2 : Int32)).toNatClampNeg)
  rw [← hz6, ← hz7] at Q
  obtain ⟨Q1, kn', Q2⟩ := Q
  refine lv_aload_n hx hb dL_law_428 rfl (lv_at hl 1 rfl) ?_
  refine lv_aload_n hx hb dL_law_429 rfl (lv_at hl 0 rfl) ?_
  refine lv_iload_n hx hb dL_law_430 rfl (lv_at hl 3 rfl) ?_
  refine lv_iconst (v := 1) hx hb dL_law_431 (by decide) ?_
  refine lv_iadd hx hb dL_law_432 ?_
  refine va_sld hx hb hX hbl hbA hS (vq1 hi hL) dL_law_433 ?_
  refine lv_aload_n hx hb dL_law_434 rfl (lv_at hl 0 rfl) ?_
  refine lv_iload_n hx hb dL_law_435 rfl (lv_at hl 3 rfl) ?_
  refine lv_iconst (v := 2) hx hb dL_law_436 (by decide) ?_
  refine lv_iadd hx hb dL_law_437 ?_
  refine va_sld hx hb hX hbl hbA hS (vq2 hi hL) dL_law_438 ?_
  refine mVB (bl := [wRt Z C TR SN HI Y P R rt, wPd cyC P sg pw, wRd R P rd, wC cyI C u w, wHM cyI cyO HI BB h r v, wC cyI TR tu tw, wC cyI SN su sw, wWy cyI Y g, wM cyI A mm xx]) (bl' := [wRt Z C TR SN HI Y P R rt, wPd cyC P sg pw, wRd R P rd, wC cyI C z6.2.2.2.2.1 z6.2.2.2.2.2, wHM cyI cyO HI BB z6.2.1 z6.2.2.1 z6.2.2.2.1, wC cyI TR tu tw, wC cyI SN su sw, wWy cyI Y g, wM cyI A mm xx]) (WSb := [wRt Z C TR SN HI Y P R rt, wPd cyC P sg pw, wRd R P rd, wC cyI C u w, wHM cyI cyO HI BB h r v, wC cyI TR tu tw, wC cyI SN su sw, wWy cyI Y g]) (WSb' := [wRt Z C TR SN HI Y P R rt, wPd cyC P sg pw, wRd R P rd, wC cyI C z6.2.2.2.2.1 z6.2.2.2.2.2, wHM cyI cyO HI BB z6.2.1 z6.2.2.1 z6.2.2.2.1, wC cyI TR tu tw, wC cyI SN su sw, wWy cyI Y g]) (As := [.int (xs (nI (5 * i) + (1 : Int32)).toNatClampNeg), .int (xs (nI (5 * i) + (2 : Int32)).toNatClampNeg)]) (rest := []) hx hb hml hown hts hl.1 (WS := (List.flatten [wRt Z C TR SN HI Y P R rt, wPd cyC P sg pw, wRd R P rd, wC cyI C u w, wHM cyI cyO HI BB h r v, wC cyI TR tu tw, wC cyI SN su sw, wWy cyI Y g])) (WS' := (List.flatten [wRt Z C TR SN HI Y P R rt, wPd cyC P sg pw, wRd R P rd, wC cyI C z6.2.2.2.2.1 z6.2.2.2.2.2, wHM cyI cyO HI BB z6.2.1 z6.2.2.1 z6.2.2.2.1, wC cyI TR tu tw, wC cyI SN su sw, wWy cyI Y g])) (ro := (some (.int z6.1))) (by rw [hz6]; exact kX6_walk l D cyC cyI cyO Z C TR SN HI Y P R BB rt sg pw rd u w h r v tu tw su sw g (xs (nI (5 * i) + (1 : Int32)).toNatClampNeg) (xs (nI (5 * i) + (2 : Int32)).toNatClampNeg) f_r) bV_X6_walk wml_RL_48 ⟨rfl, rfl⟩ ⟨Nat.le_of_ble_eq_true rfl, Nat.le_of_ble_eq_true rfl, hNC, hNS⟩ [0, 1, 2, 3, 4, 5, 6, 7] rfl rfl rfl rfl rfl rfl rfl hP hD hS hA hK 0 rfl rfl rfl rfl rfl (Nat.le_of_ble_eq_true rfl) dL_law_439 (fun H locs hP hD hS => ?_)
  refine lv_aload_n hx hb dL_law_442 rfl (lv_at hl 2 rfl) ?_
  refine lv_aload_n hx hb dL_law_443 rfl (lv_at hl 0 rfl) ?_
  refine lv_iload_n hx hb dL_law_444 rfl (lv_at hl 3 rfl) ?_
  refine lv_iconst (v := 1) hx hb dL_law_445 (by decide) ?_
  refine lv_iadd hx hb dL_law_446 ?_
  refine va_sld hx hb hX hbl hbA hS (vq1 hi hL) dL_law_447 ?_
  refine lv_aload_n hx hb dL_law_448 rfl (lv_at hl 0 rfl) ?_
  refine lv_iload_n hx hb dL_law_449 rfl (lv_at hl 3 rfl) ?_
  refine lv_iconst (v := 2) hx hb dL_law_450 (by decide) ?_
  refine lv_iadd hx hb dL_law_451 ?_
  refine va_sld hx hb hX hbl hbA hS (vq2 hi hL) dL_law_452 ?_
  refine mVB (bl := [wRt Z C TR SN HI Y P R rt, wPd cyC P sg pw, wRd R P rd, wC cyI C z6.2.2.2.2.1 z6.2.2.2.2.2, wHM cyI cyO HI BB z6.2.1 z6.2.2.1 z6.2.2.2.1, wC cyI TR tu tw, wC cyI SN su sw, wWy cyI Y g, wM cyI A mm xx]) (bl' := [wRt Z C TR SN HI Y P R rt, wPd cyC P sg pw, wRd R P rd, wC cyI C z6.2.2.2.2.1 z6.2.2.2.2.2, wHM cyI cyO HI BB z6.2.1 z6.2.2.1 z6.2.2.2.1, wC cyI TR tu tw, wC cyI SN su sw, wWy cyI Y g, wM cyI A z7.2.1 z7.2.2]) (WSb := [wM cyI A mm xx]) (WSb' := [wM cyI A z7.2.1 z7.2.2]) (As := [.int (xs (nI (5 * i) + (1 : Int32)).toNatClampNeg), .int (xs (nI (5 * i) + (2 : Int32)).toNatClampNeg)]) (rest := [.int z6.1]) hx hb hml hown hts hl.1 (WS := (wM cyI A mm xx)) (WS' := (wM cyI A z7.2.1 z7.2.2)) (ro := (some (.int z7.1))) (by rw [hz7]; exact kX7_walk l D cyC cyI cyO A mm xx (xs (nI (5 * i) + (1 : Int32)).toNatClampNeg) (xs (nI (5 * i) + (2 : Int32)).toNatClampNeg) kn f_kn f_k) bV_X7_walk wml_RL_51 ⟨rfl, rfl⟩ ⟨Nat.le_of_ble_eq_true rfl, Nat.le_of_ble_eq_true rfl, hNC, hNS⟩ [8] (by simp only [List.flatten_cons, List.flatten_nil, List.append_nil]) (by simp only [List.flatten_cons, List.flatten_nil, List.append_nil]) rfl rfl rfl rfl rfl hP hD hS hA hK 0 rfl rfl rfl rfl rfl (Nat.le_of_ble_eq_true rfl) dL_law_453 (fun H locs hP hD hS => ?_)
  refine lv_icmp_eq (tgt := 962) hx hb dL_law_456 (by decide) (fun _ => ?_) (fun q => absurd Q1 q)
  exact kk (rt) (sg) (pw) (rd) (z6.2.2.2.2.1) (z6.2.2.2.2.2) (z6.2.1) (z6.2.2.1) (z6.2.2.2.1) (tu) (tw) (su) (sw) (g) (z7.2.1) (z7.2.2) (kn') (n) (RA_mono Q2 (by omega)) H locs hP hD hS ls (lv_sub hl [0, 1, 2, 3] rfl)
set_option maxHeartbeats 4000000 in
set_option maxRecDepth 100000 in
theorem lc_9 (C0 : lw_At p s m meth c b L xs) (hK : KK D cyC cyI cyO s) (hNC : NC ≤ room_1.cells) (hNS : NS ≤ room_1.slots) (hi : 5 * i + 5 ≤ L) (hL : L ≤ 2560) (rt : Nat → Int32) (sg : Nat → Nat → Int32) (pw rd : Nat → Int32) (u : Nat → Nat → Int32) (w : Nat → Int32) (h : Nat → (Nat → Nat → Int32) × (Nat → Int32)) (r : Nat) (v : Nat → Int32) (tu : Nat → Nat → Int32) (tw : Nat → Int32) (su : Nat → Nat → Int32) (sw : Nat → Int32) (g : Nat → Nat → Int32) (mm : Nat → Nat → Int32) (xx : Nat → Int32) (kn n : Nat) (H0 : RA (128 * i) rt sg pw u w h r v su sw mm xx kn n) (kk : LK p l e s m below meth c b D cyC cyI cyO Z C TR SN HI Y P R A BB NC NS i) : ∀ (H : Heap) (locs : List Loc), va_P D vwCl (List.flatten [wRt Z C TR SN HI Y P R rt, wPd cyC P sg pw, wRd R P rd, wC cyI C u w, wHM cyI cyO HI BB h r v, wC cyI TR tu tw, wC cyI SN su sw, wWy cyI Y g, wM cyI A mm xx]) H → va_D (fun q : Nat => s.heap.size ≤ q) (List.flatten [wRt Z C TR SN HI Y P R rt, wPd cyC P sg pw, wRd R P rd, wC cyI C u w, wHM cyI cyO HI BB h r v, wC cyI TR tu tw, wC cyI SN su sw, wWy cyI Y g, wM cyI A mm xx]) → va_S (fun q : Nat => s.heap.size ≤ q) s.heap H locs → ∀ (ls : Array Slot), lv_has ls 8 [(0, .ref b), (1, .ref (Z 0)), (2, .ref (A 0)), (3, .int (nI (5 * i)))] → W p l e room_1 s m (#[Value.ref b] : Array Value) below meth c H locs NC NS (lw_Z below #[Value.ref b] s) (F0 m 461 ls []) := by
  intro H locs hP hD hS ls hl
  obtain ⟨hx, hb, hr, hml, hown, hts0, hX, hbl, hlocks, hgv⟩ := C0
  have hown : s.vm.findClass RL = some m.cls := hown
  have hts : ∀ w ∈ TB, w.before (#[Value.ref b] : Array Value) s = true := fun w h => hts0 w (List.mem_filter.mp h).1
  have hA : ∀ q : Nat, s.heap.size ≤ q → (fun q : Nat => s.heap.size ≤ q) q := fun _ h => h
  have hbA : ¬ (fun q : Nat => s.heap.size ≤ q) b := Nat.not_le.mpr hbl
  obtain ⟨f_r, f_q, f_ch, f_kn, f_k, f_m3, f_ln, f_l7, f_l6, f_7, f_n⟩ := RA_facts H0
  have f_N : 128 * i < 100000000 := by omega
  have f_N2 : 128 * i < 900000 := by omega
  have f_N3 : 128 * i < 800000 := by omega
  obtain ⟨z6, hz6⟩ : ∃ q, q = (pX6_day rt sg pw rd u w h r v tu tw su sw g) := ⟨_, rfl⟩
  obtain ⟨z7, hz7⟩ : ∃ q, q = (pX7_day mm xx kn) := ⟨_, rfl⟩
  have Q := q_day (rt := rt) (sg := sg) (pw := pw) (rd := rd) (u := u) (w := w) (h := h) (r := r) (v := v) (tu := tu) (tw := tw) (su := su) (sw := sw) (g := g) H0 f_N2
  rw [← hz6, ← hz7] at Q
  obtain ⟨Q1, kn', Q2⟩ := Q
  refine lv_aload_n hx hb dL_law_461 rfl (lv_at hl 1 rfl) ?_
  refine mVB (bl := [wRt Z C TR SN HI Y P R rt, wPd cyC P sg pw, wRd R P rd, wC cyI C u w, wHM cyI cyO HI BB h r v, wC cyI TR tu tw, wC cyI SN su sw, wWy cyI Y g, wM cyI A mm xx]) (bl' := [wRt Z C TR SN HI Y P R rt, wPd cyC P sg pw, wRd R P rd, wC cyI C z6.2.2.2.2.1 z6.2.2.2.2.2, wHM cyI cyO HI BB z6.2.1 z6.2.2.1 z6.2.2.2.1, wC cyI TR tu tw, wC cyI SN su sw, wWy cyI Y g, wM cyI A mm xx]) (WSb := [wRt Z C TR SN HI Y P R rt, wPd cyC P sg pw, wRd R P rd, wC cyI C u w, wHM cyI cyO HI BB h r v, wC cyI TR tu tw, wC cyI SN su sw, wWy cyI Y g]) (WSb' := [wRt Z C TR SN HI Y P R rt, wPd cyC P sg pw, wRd R P rd, wC cyI C z6.2.2.2.2.1 z6.2.2.2.2.2, wHM cyI cyO HI BB z6.2.1 z6.2.2.1 z6.2.2.2.1, wC cyI TR tu tw, wC cyI SN su sw, wWy cyI Y g]) (As := []) (rest := []) hx hb hml hown hts hl.1 (WS := (List.flatten [wRt Z C TR SN HI Y P R rt, wPd cyC P sg pw, wRd R P rd, wC cyI C u w, wHM cyI cyO HI BB h r v, wC cyI TR tu tw, wC cyI SN su sw, wWy cyI Y g])) (WS' := (List.flatten [wRt Z C TR SN HI Y P R rt, wPd cyC P sg pw, wRd R P rd, wC cyI C z6.2.2.2.2.1 z6.2.2.2.2.2, wHM cyI cyO HI BB z6.2.1 z6.2.2.1 z6.2.2.2.1, wC cyI TR tu tw, wC cyI SN su sw, wWy cyI Y g])) (ro := (some (.int z6.1))) (by rw [hz6]; exact kX6_day l D cyC cyI cyO Z C TR SN HI Y P R BB rt sg pw rd u w h r v tu tw su sw g f_r f_q) bV_X6_day wml_RL_52 ⟨rfl, rfl⟩ ⟨Nat.le_of_ble_eq_true rfl, Nat.le_of_ble_eq_true rfl, hNC, hNS⟩ [0, 1, 2, 3, 4, 5, 6, 7] rfl rfl rfl rfl rfl rfl rfl hP hD hS hA hK 0 rfl rfl rfl rfl rfl (Nat.le_of_ble_eq_true rfl) dL_law_462 (fun H locs hP hD hS => ?_)
  refine lv_aload_n hx hb dL_law_465 rfl (lv_at hl 2 rfl) ?_
  refine mVB (bl := [wRt Z C TR SN HI Y P R rt, wPd cyC P sg pw, wRd R P rd, wC cyI C z6.2.2.2.2.1 z6.2.2.2.2.2, wHM cyI cyO HI BB z6.2.1 z6.2.2.1 z6.2.2.2.1, wC cyI TR tu tw, wC cyI SN su sw, wWy cyI Y g, wM cyI A mm xx]) (bl' := [wRt Z C TR SN HI Y P R rt, wPd cyC P sg pw, wRd R P rd, wC cyI C z6.2.2.2.2.1 z6.2.2.2.2.2, wHM cyI cyO HI BB z6.2.1 z6.2.2.1 z6.2.2.2.1, wC cyI TR tu tw, wC cyI SN su sw, wWy cyI Y g, wM cyI A z7.2.1 z7.2.2]) (WSb := [wM cyI A mm xx]) (WSb' := [wM cyI A z7.2.1 z7.2.2]) (As := []) (rest := [.int z6.1]) hx hb hml hown hts hl.1 (WS := (wM cyI A mm xx)) (WS' := (wM cyI A z7.2.1 z7.2.2)) (ro := (some (.int z7.1))) (by rw [hz7]; exact kX7_day l D cyC cyI cyO A mm xx kn f_kn f_k f_m3 f_ln) bV_X7_day wml_RL_56 ⟨rfl, rfl⟩ ⟨Nat.le_of_ble_eq_true rfl, Nat.le_of_ble_eq_true rfl, hNC, hNS⟩ [8] (by simp only [List.flatten_cons, List.flatten_nil, List.append_nil]) (by simp only [List.flatten_cons, List.flatten_nil, List.append_nil]) rfl rfl rfl rfl rfl hP hD hS hA hK 0 rfl rfl rfl rfl rfl (Nat.le_of_ble_eq_true rfl) dL_law_466 (fun H locs hP hD hS => ?_)
  refine lv_icmp_eq (tgt := 962) hx hb dL_law_469 (by decide) (fun _ => ?_) (fun q => absurd Q1 q)
  exact kk (rt) (sg) (pw) (rd) (z6.2.2.2.2.1) (z6.2.2.2.2.2) (z6.2.1) (z6.2.2.1) (z6.2.2.2.1) (tu) (tw) (su) (sw) (g) (z7.2.1) (z7.2.2) (kn') (n) (RA_mono Q2 (by omega)) H locs hP hD hS ls (lv_sub hl [0, 1, 2, 3] rfl)
set_option maxHeartbeats 4000000 in
set_option maxRecDepth 100000 in
theorem lc_10 (C0 : lw_At p s m meth c b L xs) (hK : KK D cyC cyI cyO s) (hNC : NC ≤ room_1.cells) (hNS : NS ≤ room_1.slots) (hi : 5 * i + 5 ≤ L) (hL : L ≤ 2560) (rt : Nat → Int32) (sg : Nat → Nat → Int32) (pw rd : Nat → Int32) (u : Nat → Nat → Int32) (w : Nat → Int32) (h : Nat → (Nat → Nat → Int32) × (Nat → Int32)) (r : Nat) (v : Nat → Int32) (tu : Nat → Nat → Int32) (tw : Nat → Int32) (su : Nat → Nat → Int32) (sw : Nat → Int32) (g : Nat → Nat → Int32) (mm : Nat → Nat → Int32) (xx : Nat → Int32) (kn n : Nat) (H0 : RA (128 * i) rt sg pw u w h r v su sw mm xx kn n) (kk : LK p l e s m below meth c b D cyC cyI cyO Z C TR SN HI Y P R A BB NC NS i) : ∀ (H : Heap) (locs : List Loc), va_P D vwCl (List.flatten [wRt Z C TR SN HI Y P R rt, wPd cyC P sg pw, wRd R P rd, wC cyI C u w, wHM cyI cyO HI BB h r v, wC cyI TR tu tw, wC cyI SN su sw, wWy cyI Y g, wM cyI A mm xx]) H → va_D (fun q : Nat => s.heap.size ≤ q) (List.flatten [wRt Z C TR SN HI Y P R rt, wPd cyC P sg pw, wRd R P rd, wC cyI C u w, wHM cyI cyO HI BB h r v, wC cyI TR tu tw, wC cyI SN su sw, wWy cyI Y g, wM cyI A mm xx]) → va_S (fun q : Nat => s.heap.size ≤ q) s.heap H locs → ∀ (ls : Array Slot), lv_has ls 8 [(0, .ref b), (1, .ref (Z 0)), (2, .ref (A 0)), (3, .int (nI (5 * i)))] → W p l e room_1 s m (#[Value.ref b] : Array Value) below meth c H locs NC NS (lw_Z below #[Value.ref b] s) (F0 m 474 ls []) := by
  intro H locs hP hD hS ls hl
  obtain ⟨hx, hb, hr, hml, hown, hts0, hX, hbl, hlocks, hgv⟩ := C0
  have hown : s.vm.findClass RL = some m.cls := hown
  have hts : ∀ w ∈ TB, w.before (#[Value.ref b] : Array Value) s = true := fun w h => hts0 w (List.mem_filter.mp h).1
  have hA : ∀ q : Nat, s.heap.size ≤ q → (fun q : Nat => s.heap.size ≤ q) q := fun _ h => h
  have hbA : ¬ (fun q : Nat => s.heap.size ≤ q) b := Nat.not_le.mpr hbl
  obtain ⟨f_r, f_q, f_ch, f_kn, f_k, f_m3, f_ln, f_l7, f_l6, f_7, f_n⟩ := RA_facts H0
  have f_N : 128 * i < 100000000 := by omega
  have f_N2 : 128 * i < 900000 := by omega
  have f_N3 : 128 * i < 800000 := by omega
  obtain ⟨z6, hz6⟩ : ∃ q, q = (pX6_append rt sg pw rd u w h r v tu tw su sw g (xs (nI (5 * i) + (1 : Int32)).toNatClampNeg)) := ⟨_, rfl⟩
  obtain ⟨z7, hz7⟩ : ∃ q, q = (pX7_append mm xx (xs (nI (5 * i) + (1 : Int32)).toNatClampNeg)) := ⟨_, rfl⟩
  have Q := q_append (rt := rt) (sg := sg) (pw := pw) (rd := rd) (u := u) (w := w) (h := h) (r := r) (v := v) (tu := tu) (tw := tw) (su := su) (sw := sw) (g := g) H0 (xs (nI (5 * i) + (1 : Int32)).toNatClampNeg)
  rw [← hz6, ← hz7] at Q
  obtain ⟨Q1, n', Q2⟩ := Q
  refine lv_aload_n hx hb dL_law_474 rfl (lv_at hl 1 rfl) ?_
  refine lv_aload_n hx hb dL_law_475 rfl (lv_at hl 0 rfl) ?_
  refine lv_iload_n hx hb dL_law_476 rfl (lv_at hl 3 rfl) ?_
  refine lv_iconst (v := 1) hx hb dL_law_477 (by decide) ?_
  refine lv_iadd hx hb dL_law_478 ?_
  refine va_sld hx hb hX hbl hbA hS (vq1 hi hL) dL_law_479 ?_
  refine mVB (bl := [wRt Z C TR SN HI Y P R rt, wPd cyC P sg pw, wRd R P rd, wC cyI C u w, wHM cyI cyO HI BB h r v, wC cyI TR tu tw, wC cyI SN su sw, wWy cyI Y g, wM cyI A mm xx]) (bl' := [wRt Z C TR SN HI Y P R rt, wPd cyC P z6.2.1 z6.2.2, wRd R P rd, wC cyI C u w, wHM cyI cyO HI BB h r v, wC cyI TR tu tw, wC cyI SN su sw, wWy cyI Y g, wM cyI A mm xx]) (WSb := [wRt Z C TR SN HI Y P R rt, wPd cyC P sg pw, wRd R P rd, wC cyI C u w, wHM cyI cyO HI BB h r v, wC cyI TR tu tw, wC cyI SN su sw, wWy cyI Y g]) (WSb' := [wRt Z C TR SN HI Y P R rt, wPd cyC P z6.2.1 z6.2.2, wRd R P rd, wC cyI C u w, wHM cyI cyO HI BB h r v, wC cyI TR tu tw, wC cyI SN su sw, wWy cyI Y g]) (As := [.int (xs (nI (5 * i) + (1 : Int32)).toNatClampNeg)]) (rest := []) hx hb hml hown hts hl.1 (WS := (List.flatten [wRt Z C TR SN HI Y P R rt, wPd cyC P sg pw, wRd R P rd, wC cyI C u w, wHM cyI cyO HI BB h r v, wC cyI TR tu tw, wC cyI SN su sw, wWy cyI Y g])) (WS' := (List.flatten [wRt Z C TR SN HI Y P R rt, wPd cyC P z6.2.1 z6.2.2, wRd R P rd, wC cyI C u w, wHM cyI cyO HI BB h r v, wC cyI TR tu tw, wC cyI SN su sw, wWy cyI Y g])) (ro := (some (.int z6.1))) (by rw [hz6]; exact kX6_append l D cyC cyI cyO Z C TR SN HI Y P R BB rt sg pw rd u w h r v tu tw su sw g (xs (nI (5 * i) + (1 : Int32)).toNatClampNeg) ) bV_X6_append wml_RL_57 ⟨rfl, rfl⟩ ⟨Nat.le_of_ble_eq_true rfl, Nat.le_of_ble_eq_true rfl, hNC, hNS⟩ [0, 1, 2, 3, 4, 5, 6, 7] rfl rfl rfl rfl rfl rfl rfl hP hD hS hA hK 0 rfl rfl rfl rfl rfl (Nat.le_of_ble_eq_true rfl) dL_law_480 (fun H locs hP hD hS => ?_)
  refine lv_aload_n hx hb dL_law_483 rfl (lv_at hl 2 rfl) ?_
  refine lv_aload_n hx hb dL_law_484 rfl (lv_at hl 0 rfl) ?_
  refine lv_iload_n hx hb dL_law_485 rfl (lv_at hl 3 rfl) ?_
  refine lv_iconst (v := 1) hx hb dL_law_486 (by decide) ?_
  refine lv_iadd hx hb dL_law_487 ?_
  refine va_sld hx hb hX hbl hbA hS (vq1 hi hL) dL_law_488 ?_
  refine mVB (bl := [wRt Z C TR SN HI Y P R rt, wPd cyC P z6.2.1 z6.2.2, wRd R P rd, wC cyI C u w, wHM cyI cyO HI BB h r v, wC cyI TR tu tw, wC cyI SN su sw, wWy cyI Y g, wM cyI A mm xx]) (bl' := [wRt Z C TR SN HI Y P R rt, wPd cyC P z6.2.1 z6.2.2, wRd R P rd, wC cyI C u w, wHM cyI cyO HI BB h r v, wC cyI TR tu tw, wC cyI SN su sw, wWy cyI Y g, wM cyI A z7.2.1 z7.2.2]) (WSb := [wM cyI A mm xx]) (WSb' := [wM cyI A z7.2.1 z7.2.2]) (As := [.int (xs (nI (5 * i) + (1 : Int32)).toNatClampNeg)]) (rest := [.int z6.1]) hx hb hml hown hts hl.1 (WS := (wM cyI A mm xx)) (WS' := (wM cyI A z7.2.1 z7.2.2)) (ro := (some (.int z7.1))) (by rw [hz7]; exact kX7_append l D cyC cyI cyO A mm xx (xs (nI (5 * i) + (1 : Int32)).toNatClampNeg) f_l7) bV_X7_append wml_RL_60 ⟨rfl, rfl⟩ ⟨Nat.le_of_ble_eq_true rfl, Nat.le_of_ble_eq_true rfl, hNC, hNS⟩ [8] (by simp only [List.flatten_cons, List.flatten_nil, List.append_nil]) (by simp only [List.flatten_cons, List.flatten_nil, List.append_nil]) rfl rfl rfl rfl rfl hP hD hS hA hK 0 rfl rfl rfl rfl rfl (Nat.le_of_ble_eq_true rfl) dL_law_489 (fun H locs hP hD hS => ?_)
  refine lv_icmp_eq (tgt := 962) hx hb dL_law_492 (by decide) (fun _ => ?_) (fun q => absurd Q1 q)
  exact kk (rt) (z6.2.1) (z6.2.2) (rd) (u) (w) (h) (r) (v) (tu) (tw) (su) (sw) (g) (z7.2.1) (z7.2.2) (kn) (n') (RA_mono Q2 (by omega)) H locs hP hD hS ls (lv_sub hl [0, 1, 2, 3] rfl)
set_option maxHeartbeats 4000000 in
set_option maxRecDepth 100000 in
theorem lc_11 (C0 : lw_At p s m meth c b L xs) (hK : KK D cyC cyI cyO s) (hNC : NC ≤ room_1.cells) (hNS : NS ≤ room_1.slots) (hi : 5 * i + 5 ≤ L) (hL : L ≤ 2560) (rt : Nat → Int32) (sg : Nat → Nat → Int32) (pw rd : Nat → Int32) (u : Nat → Nat → Int32) (w : Nat → Int32) (h : Nat → (Nat → Nat → Int32) × (Nat → Int32)) (r : Nat) (v : Nat → Int32) (tu : Nat → Nat → Int32) (tw : Nat → Int32) (su : Nat → Nat → Int32) (sw : Nat → Int32) (g : Nat → Nat → Int32) (mm : Nat → Nat → Int32) (xx : Nat → Int32) (kn n : Nat) (H0 : RA (128 * i) rt sg pw u w h r v su sw mm xx kn n) (kk : LK p l e s m below meth c b D cyC cyI cyO Z C TR SN HI Y P R A BB NC NS i) : ∀ (H : Heap) (locs : List Loc), va_P D vwCl (List.flatten [wRt Z C TR SN HI Y P R rt, wPd cyC P sg pw, wRd R P rd, wC cyI C u w, wHM cyI cyO HI BB h r v, wC cyI TR tu tw, wC cyI SN su sw, wWy cyI Y g, wM cyI A mm xx]) H → va_D (fun q : Nat => s.heap.size ≤ q) (List.flatten [wRt Z C TR SN HI Y P R rt, wPd cyC P sg pw, wRd R P rd, wC cyI C u w, wHM cyI cyO HI BB h r v, wC cyI TR tu tw, wC cyI SN su sw, wWy cyI Y g, wM cyI A mm xx]) → va_S (fun q : Nat => s.heap.size ≤ q) s.heap H locs → ∀ (ls : Array Slot), lv_has ls 8 [(0, .ref b), (1, .ref (Z 0)), (2, .ref (A 0)), (3, .int (nI (5 * i)))] → W p l e room_1 s m (#[Value.ref b] : Array Value) below meth c H locs NC NS (lw_Z below #[Value.ref b] s) (F0 m 497 ls []) := by
  intro H locs hP hD hS ls hl
  obtain ⟨hx, hb, hr, hml, hown, hts0, hX, hbl, hlocks, hgv⟩ := C0
  have hown : s.vm.findClass RL = some m.cls := hown
  have hts : ∀ w ∈ TB, w.before (#[Value.ref b] : Array Value) s = true := fun w h => hts0 w (List.mem_filter.mp h).1
  have hA : ∀ q : Nat, s.heap.size ≤ q → (fun q : Nat => s.heap.size ≤ q) q := fun _ h => h
  have hbA : ¬ (fun q : Nat => s.heap.size ≤ q) b := Nat.not_le.mpr hbl
  obtain ⟨f_r, f_q, f_ch, f_kn, f_k, f_m3, f_ln, f_l7, f_l6, f_7, f_n⟩ := RA_facts H0
  have f_N : 128 * i < 100000000 := by omega
  have f_N2 : 128 * i < 900000 := by omega
  have f_N3 : 128 * i < 800000 := by omega
  obtain ⟨z6, hz6⟩ : ∃ q, q = (pX6_clear rt sg pw rd u w h r v tu tw su sw g) := ⟨_, rfl⟩
  obtain ⟨z7, hz7⟩ : ∃ q, q = (pX7_clear mm xx) := ⟨_, rfl⟩
  have Q := q_clear (rt := rt) (sg := sg) (pw := pw) (rd := rd) (u := u) (w := w) (h := h) (r := r) (v := v) (tu := tu) (tw := tw) (su := su) (sw := sw) (g := g) H0
  rw [← hz6, ← hz7] at Q
  obtain ⟨Q1, n', Q2⟩ := Q
  refine lv_aload_n hx hb dL_law_497 rfl (lv_at hl 1 rfl) ?_
  refine mVB (bl := [wRt Z C TR SN HI Y P R rt, wPd cyC P sg pw, wRd R P rd, wC cyI C u w, wHM cyI cyO HI BB h r v, wC cyI TR tu tw, wC cyI SN su sw, wWy cyI Y g, wM cyI A mm xx]) (bl' := [wRt Z C TR SN HI Y P R rt, wPd cyC P z6.2.1 z6.2.2, wRd R P rd, wC cyI C u w, wHM cyI cyO HI BB h r v, wC cyI TR tu tw, wC cyI SN su sw, wWy cyI Y g, wM cyI A mm xx]) (WSb := [wRt Z C TR SN HI Y P R rt, wPd cyC P sg pw, wRd R P rd, wC cyI C u w, wHM cyI cyO HI BB h r v, wC cyI TR tu tw, wC cyI SN su sw, wWy cyI Y g]) (WSb' := [wRt Z C TR SN HI Y P R rt, wPd cyC P z6.2.1 z6.2.2, wRd R P rd, wC cyI C u w, wHM cyI cyO HI BB h r v, wC cyI TR tu tw, wC cyI SN su sw, wWy cyI Y g]) (As := []) (rest := []) hx hb hml hown hts hl.1 (WS := (List.flatten [wRt Z C TR SN HI Y P R rt, wPd cyC P sg pw, wRd R P rd, wC cyI C u w, wHM cyI cyO HI BB h r v, wC cyI TR tu tw, wC cyI SN su sw, wWy cyI Y g])) (WS' := (List.flatten [wRt Z C TR SN HI Y P R rt, wPd cyC P z6.2.1 z6.2.2, wRd R P rd, wC cyI C u w, wHM cyI cyO HI BB h r v, wC cyI TR tu tw, wC cyI SN su sw, wWy cyI Y g])) (ro := (some (.int z6.1))) (by rw [hz6]; exact kX6_clear l D cyC cyI cyO Z C TR SN HI Y P R BB rt sg pw rd u w h r v tu tw su sw g ) bV_X6_clear wml_RL_61 ⟨rfl, rfl⟩ ⟨Nat.le_of_ble_eq_true rfl, Nat.le_of_ble_eq_true rfl, hNC, hNS⟩ [0, 1, 2, 3, 4, 5, 6, 7] rfl rfl rfl rfl rfl rfl rfl hP hD hS hA hK 0 rfl rfl rfl rfl rfl (Nat.le_of_ble_eq_true rfl) dL_law_498 (fun H locs hP hD hS => ?_)
  refine lv_aload_n hx hb dL_law_501 rfl (lv_at hl 2 rfl) ?_
  refine mVB (bl := [wRt Z C TR SN HI Y P R rt, wPd cyC P z6.2.1 z6.2.2, wRd R P rd, wC cyI C u w, wHM cyI cyO HI BB h r v, wC cyI TR tu tw, wC cyI SN su sw, wWy cyI Y g, wM cyI A mm xx]) (bl' := [wRt Z C TR SN HI Y P R rt, wPd cyC P z6.2.1 z6.2.2, wRd R P rd, wC cyI C u w, wHM cyI cyO HI BB h r v, wC cyI TR tu tw, wC cyI SN su sw, wWy cyI Y g, wM cyI A z7.2.1 z7.2.2]) (WSb := [wM cyI A mm xx]) (WSb' := [wM cyI A z7.2.1 z7.2.2]) (As := []) (rest := [.int z6.1]) hx hb hml hown hts hl.1 (WS := (wM cyI A mm xx)) (WS' := (wM cyI A z7.2.1 z7.2.2)) (ro := (some (.int z7.1))) (by rw [hz7]; exact kX7_clear l D cyC cyI cyO A mm xx ) bV_X7_clear wml_RL_64 ⟨rfl, rfl⟩ ⟨Nat.le_of_ble_eq_true rfl, Nat.le_of_ble_eq_true rfl, hNC, hNS⟩ [8] (by simp only [List.flatten_cons, List.flatten_nil, List.append_nil]) (by simp only [List.flatten_cons, List.flatten_nil, List.append_nil]) rfl rfl rfl rfl rfl hP hD hS hA hK 0 rfl rfl rfl rfl rfl (Nat.le_of_ble_eq_true rfl) dL_law_502 (fun H locs hP hD hS => ?_)
  refine lv_icmp_eq (tgt := 962) hx hb dL_law_505 (by decide) (fun _ => ?_) (fun q => absurd Q1 q)
  exact kk (rt) (z6.2.1) (z6.2.2) (rd) (u) (w) (h) (r) (v) (tu) (tw) (su) (sw) (g) (z7.2.1) (z7.2.2) (kn) (n') (RA_mono Q2 (by omega)) H locs hP hD hS ls (lv_sub hl [0, 1, 2, 3] rfl)
set_option maxHeartbeats 4000000 in
set_option maxRecDepth 100000 in
theorem lc_12 (C0 : lw_At p s m meth c b L xs) (hK : KK D cyC cyI cyO s) (hNC : NC ≤ room_1.cells) (hNS : NS ≤ room_1.slots) (hi : 5 * i + 5 ≤ L) (hL : L ≤ 2560) (rt : Nat → Int32) (sg : Nat → Nat → Int32) (pw rd : Nat → Int32) (u : Nat → Nat → Int32) (w : Nat → Int32) (h : Nat → (Nat → Nat → Int32) × (Nat → Int32)) (r : Nat) (v : Nat → Int32) (tu : Nat → Nat → Int32) (tw : Nat → Int32) (su : Nat → Nat → Int32) (sw : Nat → Int32) (g : Nat → Nat → Int32) (mm : Nat → Nat → Int32) (xx : Nat → Int32) (kn n : Nat) (H0 : RA (128 * i) rt sg pw u w h r v su sw mm xx kn n) (kk : LK p l e s m below meth c b D cyC cyI cyO Z C TR SN HI Y P R A BB NC NS i) : ∀ (H : Heap) (locs : List Loc), va_P D vwCl (List.flatten [wRt Z C TR SN HI Y P R rt, wPd cyC P sg pw, wRd R P rd, wC cyI C u w, wHM cyI cyO HI BB h r v, wC cyI TR tu tw, wC cyI SN su sw, wWy cyI Y g, wM cyI A mm xx]) H → va_D (fun q : Nat => s.heap.size ≤ q) (List.flatten [wRt Z C TR SN HI Y P R rt, wPd cyC P sg pw, wRd R P rd, wC cyI C u w, wHM cyI cyO HI BB h r v, wC cyI TR tu tw, wC cyI SN su sw, wWy cyI Y g, wM cyI A mm xx]) → va_S (fun q : Nat => s.heap.size ≤ q) s.heap H locs → ∀ (ls : Array Slot), lv_has ls 8 [(0, .ref b), (1, .ref (Z 0)), (2, .ref (A 0)), (3, .int (nI (5 * i)))] → W p l e room_1 s m (#[Value.ref b] : Array Value) below meth c H locs NC NS (lw_Z below #[Value.ref b] s) (F0 m 510 ls []) := by
  intro H locs hP hD hS ls hl
  obtain ⟨hx, hb, hr, hml, hown, hts0, hX, hbl, hlocks, hgv⟩ := C0
  have hown : s.vm.findClass RL = some m.cls := hown
  have hts : ∀ w ∈ TB, w.before (#[Value.ref b] : Array Value) s = true := fun w h => hts0 w (List.mem_filter.mp h).1
  have hA : ∀ q : Nat, s.heap.size ≤ q → (fun q : Nat => s.heap.size ≤ q) q := fun _ h => h
  have hbA : ¬ (fun q : Nat => s.heap.size ≤ q) b := Nat.not_le.mpr hbl
  obtain ⟨f_r, f_q, f_ch, f_kn, f_k, f_m3, f_ln, f_l7, f_l6, f_7, f_n⟩ := RA_facts H0
  have f_N : 128 * i < 100000000 := by omega
  have f_N2 : 128 * i < 900000 := by omega
  have f_N3 : 128 * i < 800000 := by omega
  obtain ⟨z6, hz6⟩ : ∃ q, q = (pX6_fault rt sg pw rd u w h r v tu tw su sw g) := ⟨_, rfl⟩
  obtain ⟨z7, hz7⟩ : ∃ q, q = (pX7_fault mm xx) := ⟨_, rfl⟩
  have Q := q_fault (rt := rt) (sg := sg) (pw := pw) (rd := rd) (u := u) (w := w) (h := h) (r := r) (v := v) (tu := tu) (tw := tw) (su := su) (sw := sw) (g := g) H0
  rw [← hz6, ← hz7] at Q
  obtain ⟨Q1, Q2⟩ := Q
  refine lv_aload_n hx hb dL_law_510 rfl (lv_at hl 1 rfl) ?_
  refine mVB (bl := [wRt Z C TR SN HI Y P R rt, wPd cyC P sg pw, wRd R P rd, wC cyI C u w, wHM cyI cyO HI BB h r v, wC cyI TR tu tw, wC cyI SN su sw, wWy cyI Y g, wM cyI A mm xx]) (bl' := [wRt Z C TR SN HI Y P R rt, wPd cyC P sg pw, wRd R P z6.2, wC cyI C u w, wHM cyI cyO HI BB h r v, wC cyI TR tu tw, wC cyI SN su sw, wWy cyI Y g, wM cyI A mm xx]) (WSb := [wRt Z C TR SN HI Y P R rt, wPd cyC P sg pw, wRd R P rd, wC cyI C u w, wHM cyI cyO HI BB h r v, wC cyI TR tu tw, wC cyI SN su sw, wWy cyI Y g]) (WSb' := [wRt Z C TR SN HI Y P R rt, wPd cyC P sg pw, wRd R P z6.2, wC cyI C u w, wHM cyI cyO HI BB h r v, wC cyI TR tu tw, wC cyI SN su sw, wWy cyI Y g]) (As := []) (rest := []) hx hb hml hown hts hl.1 (WS := (List.flatten [wRt Z C TR SN HI Y P R rt, wPd cyC P sg pw, wRd R P rd, wC cyI C u w, wHM cyI cyO HI BB h r v, wC cyI TR tu tw, wC cyI SN su sw, wWy cyI Y g])) (WS' := (List.flatten [wRt Z C TR SN HI Y P R rt, wPd cyC P sg pw, wRd R P z6.2, wC cyI C u w, wHM cyI cyO HI BB h r v, wC cyI TR tu tw, wC cyI SN su sw, wWy cyI Y g])) (ro := (some (.int z6.1))) (by rw [hz6]; exact kX6_fault l D cyC cyI cyO Z C TR SN HI Y P R BB rt sg pw rd u w h r v tu tw su sw g f_ch) bV_X6_fault wml_RL_65 ⟨rfl, rfl⟩ ⟨Nat.le_of_ble_eq_true rfl, Nat.le_of_ble_eq_true rfl, hNC, hNS⟩ [0, 1, 2, 3, 4, 5, 6, 7] rfl rfl rfl rfl rfl rfl rfl hP hD hS hA hK 0 rfl rfl rfl rfl rfl (Nat.le_of_ble_eq_true rfl) dL_law_511 (fun H locs hP hD hS => ?_)
  refine lv_aload_n hx hb dL_law_514 rfl (lv_at hl 2 rfl) ?_
  refine mVB (bl := [wRt Z C TR SN HI Y P R rt, wPd cyC P sg pw, wRd R P z6.2, wC cyI C u w, wHM cyI cyO HI BB h r v, wC cyI TR tu tw, wC cyI SN su sw, wWy cyI Y g, wM cyI A mm xx]) (bl' := [wRt Z C TR SN HI Y P R rt, wPd cyC P sg pw, wRd R P z6.2, wC cyI C u w, wHM cyI cyO HI BB h r v, wC cyI TR tu tw, wC cyI SN su sw, wWy cyI Y g, wM cyI A z7.2.1 z7.2.2]) (WSb := [wM cyI A mm xx]) (WSb' := [wM cyI A z7.2.1 z7.2.2]) (As := []) (rest := [.int z6.1]) hx hb hml hown hts hl.1 (WS := (wM cyI A mm xx)) (WS' := (wM cyI A z7.2.1 z7.2.2)) (ro := (some (.int z7.1))) (by rw [hz7]; exact kX7_fault l D cyC cyI cyO A mm xx f_l6) bV_X7_fault wml_RL_68 ⟨rfl, rfl⟩ ⟨Nat.le_of_ble_eq_true rfl, Nat.le_of_ble_eq_true rfl, hNC, hNS⟩ [8] (by simp only [List.flatten_cons, List.flatten_nil, List.append_nil]) (by simp only [List.flatten_cons, List.flatten_nil, List.append_nil]) rfl rfl rfl rfl rfl hP hD hS hA hK 0 rfl rfl rfl rfl rfl (Nat.le_of_ble_eq_true rfl) dL_law_515 (fun H locs hP hD hS => ?_)
  refine lv_icmp_eq (tgt := 962) hx hb dL_law_518 (by decide) (fun _ => ?_) (fun q => absurd Q1 q)
  exact kk (rt) (sg) (pw) (z6.2) (u) (w) (h) (r) (v) (tu) (tw) (su) (sw) (g) (z7.2.1) (z7.2.2) (kn) (n) (RA_mono Q2 (by omega)) H locs hP hD hS ls (lv_sub hl [0, 1, 2, 3] rfl)
set_option maxHeartbeats 4000000 in
set_option maxRecDepth 100000 in
theorem lc_13 (C0 : lw_At p s m meth c b L xs) (hK : KK D cyC cyI cyO s) (hNC : NC ≤ room_1.cells) (hNS : NS ≤ room_1.slots) (hi : 5 * i + 5 ≤ L) (hL : L ≤ 2560) (rt : Nat → Int32) (sg : Nat → Nat → Int32) (pw rd : Nat → Int32) (u : Nat → Nat → Int32) (w : Nat → Int32) (h : Nat → (Nat → Nat → Int32) × (Nat → Int32)) (r : Nat) (v : Nat → Int32) (tu : Nat → Nat → Int32) (tw : Nat → Int32) (su : Nat → Nat → Int32) (sw : Nat → Int32) (g : Nat → Nat → Int32) (mm : Nat → Nat → Int32) (xx : Nat → Int32) (kn n : Nat) (H0 : RA (128 * i) rt sg pw u w h r v su sw mm xx kn n) (kk : LK p l e s m below meth c b D cyC cyI cyO Z C TR SN HI Y P R A BB NC NS i) : ∀ (H : Heap) (locs : List Loc), va_P D vwCl (List.flatten [wRt Z C TR SN HI Y P R rt, wPd cyC P sg pw, wRd R P rd, wC cyI C u w, wHM cyI cyO HI BB h r v, wC cyI TR tu tw, wC cyI SN su sw, wWy cyI Y g, wM cyI A mm xx]) H → va_D (fun q : Nat => s.heap.size ≤ q) (List.flatten [wRt Z C TR SN HI Y P R rt, wPd cyC P sg pw, wRd R P rd, wC cyI C u w, wHM cyI cyO HI BB h r v, wC cyI TR tu tw, wC cyI SN su sw, wWy cyI Y g, wM cyI A mm xx]) → va_S (fun q : Nat => s.heap.size ≤ q) s.heap H locs → ∀ (ls : Array Slot), lv_has ls 8 [(0, .ref b), (1, .ref (Z 0)), (2, .ref (A 0)), (3, .int (nI (5 * i)))] → W p l e room_1 s m (#[Value.ref b] : Array Value) below meth c H locs NC NS (lw_Z below #[Value.ref b] s) (F0 m 523 ls []) := by
  intro H locs hP hD hS ls hl
  obtain ⟨hx, hb, hr, hml, hown, hts0, hX, hbl, hlocks, hgv⟩ := C0
  have hown : s.vm.findClass RL = some m.cls := hown
  have hts : ∀ w ∈ TB, w.before (#[Value.ref b] : Array Value) s = true := fun w h => hts0 w (List.mem_filter.mp h).1
  have hA : ∀ q : Nat, s.heap.size ≤ q → (fun q : Nat => s.heap.size ≤ q) q := fun _ h => h
  have hbA : ¬ (fun q : Nat => s.heap.size ≤ q) b := Nat.not_le.mpr hbl
  obtain ⟨f_r, f_q, f_ch, f_kn, f_k, f_m3, f_ln, f_l7, f_l6, f_7, f_n⟩ := RA_facts H0
  have f_N : 128 * i < 100000000 := by omega
  have f_N2 : 128 * i < 900000 := by omega
  have f_N3 : 128 * i < 800000 := by omega
  obtain ⟨z6, hz6⟩ : ∃ q, q = (pX6_run rt sg pw rd u w h r v tu tw su sw g) := ⟨_, rfl⟩
  obtain ⟨z7, hz7⟩ : ∃ q, q = (pX7_run mm xx kn n) := ⟨_, rfl⟩
  have Q := q_run (rt := rt) (sg := sg) (pw := pw) (rd := rd) (u := u) (w := w) (h := h) (r := r) (v := v) (tu := tu) (tw := tw) (su := su) (sw := sw) (g := g) H0 f_N3
  rw [← hz6, ← hz7] at Q
  obtain ⟨Q1, kn', n', Q2⟩ := Q
  refine lv_aload_n hx hb dL_law_523 rfl (lv_at hl 1 rfl) ?_
  refine mVB (bl := [wRt Z C TR SN HI Y P R rt, wPd cyC P sg pw, wRd R P rd, wC cyI C u w, wHM cyI cyO HI BB h r v, wC cyI TR tu tw, wC cyI SN su sw, wWy cyI Y g, wM cyI A mm xx]) (bl' := [wRt Z C TR SN HI Y P R z6.2.1, wPd cyC P z6.2.2.1 z6.2.2.2.1, wRd R P z6.2.2.2.2.1, wC cyI C z6.2.2.2.2.2.2.2.2.1 z6.2.2.2.2.2.2.2.2.2, wHM cyI cyO HI BB z6.2.2.2.2.2.1 z6.2.2.2.2.2.2.1 z6.2.2.2.2.2.2.2.1, wC cyI TR tu tw, wC cyI SN su sw, wWy cyI Y g, wM cyI A mm xx]) (WSb := [wRt Z C TR SN HI Y P R rt, wPd cyC P sg pw, wRd R P rd, wC cyI C u w, wHM cyI cyO HI BB h r v, wC cyI TR tu tw, wC cyI SN su sw, wWy cyI Y g]) (WSb' := [wRt Z C TR SN HI Y P R z6.2.1, wPd cyC P z6.2.2.1 z6.2.2.2.1, wRd R P z6.2.2.2.2.1, wC cyI C z6.2.2.2.2.2.2.2.2.1 z6.2.2.2.2.2.2.2.2.2, wHM cyI cyO HI BB z6.2.2.2.2.2.1 z6.2.2.2.2.2.2.1 z6.2.2.2.2.2.2.2.1, wC cyI TR tu tw, wC cyI SN su sw, wWy cyI Y g]) (As := []) (rest := []) hx hb hml hown hts hl.1 (WS := (List.flatten [wRt Z C TR SN HI Y P R rt, wPd cyC P sg pw, wRd R P rd, wC cyI C u w, wHM cyI cyO HI BB h r v, wC cyI TR tu tw, wC cyI SN su sw, wWy cyI Y g])) (WS' := (List.flatten [wRt Z C TR SN HI Y P R z6.2.1, wPd cyC P z6.2.2.1 z6.2.2.2.1, wRd R P z6.2.2.2.2.1, wC cyI C z6.2.2.2.2.2.2.2.2.1 z6.2.2.2.2.2.2.2.2.2, wHM cyI cyO HI BB z6.2.2.2.2.2.1 z6.2.2.2.2.2.2.1 z6.2.2.2.2.2.2.2.1, wC cyI TR tu tw, wC cyI SN su sw, wWy cyI Y g])) (ro := (some (.int z6.1))) (by rw [hz6]; exact kX6_run l D cyC cyI cyO Z C TR SN HI Y P R BB rt sg pw rd u w h r v tu tw su sw g f_r f_q f_ch) bV_X6_run wml_RL_69 ⟨rfl, rfl⟩ ⟨Nat.le_of_ble_eq_true rfl, Nat.le_of_ble_eq_true rfl, hNC, hNS⟩ [0, 1, 2, 3, 4, 5, 6, 7] rfl rfl rfl rfl rfl rfl rfl hP hD hS hA hK 0 rfl rfl rfl rfl rfl (Nat.le_of_ble_eq_true rfl) dL_law_524 (fun H locs hP hD hS => ?_)
  refine lv_aload_n hx hb dL_law_527 rfl (lv_at hl 2 rfl) ?_
  refine mVB (bl := [wRt Z C TR SN HI Y P R z6.2.1, wPd cyC P z6.2.2.1 z6.2.2.2.1, wRd R P z6.2.2.2.2.1, wC cyI C z6.2.2.2.2.2.2.2.2.1 z6.2.2.2.2.2.2.2.2.2, wHM cyI cyO HI BB z6.2.2.2.2.2.1 z6.2.2.2.2.2.2.1 z6.2.2.2.2.2.2.2.1, wC cyI TR tu tw, wC cyI SN su sw, wWy cyI Y g, wM cyI A mm xx]) (bl' := [wRt Z C TR SN HI Y P R z6.2.1, wPd cyC P z6.2.2.1 z6.2.2.2.1, wRd R P z6.2.2.2.2.1, wC cyI C z6.2.2.2.2.2.2.2.2.1 z6.2.2.2.2.2.2.2.2.2, wHM cyI cyO HI BB z6.2.2.2.2.2.1 z6.2.2.2.2.2.2.1 z6.2.2.2.2.2.2.2.1, wC cyI TR tu tw, wC cyI SN su sw, wWy cyI Y g, wM cyI A z7.2.1 z7.2.2]) (WSb := [wM cyI A mm xx]) (WSb' := [wM cyI A z7.2.1 z7.2.2]) (As := []) (rest := [.int z6.1]) hx hb hml hown hts hl.1 (WS := (wM cyI A mm xx)) (WS' := (wM cyI A z7.2.1 z7.2.2)) (ro := (some (.int z7.1))) (by rw [hz7]; exact kX7_run l D cyC cyI cyO A mm xx kn n f_kn f_k f_m3 f_ln f_7 f_n) bV_X7_run wml_RL_72 ⟨rfl, rfl⟩ ⟨Nat.le_of_ble_eq_true rfl, Nat.le_of_ble_eq_true rfl, hNC, hNS⟩ [8] (by simp only [List.flatten_cons, List.flatten_nil, List.append_nil]) (by simp only [List.flatten_cons, List.flatten_nil, List.append_nil]) rfl rfl rfl rfl rfl hP hD hS hA hK 0 rfl rfl rfl rfl rfl (Nat.le_of_ble_eq_true rfl) dL_law_528 (fun H locs hP hD hS => ?_)
  refine lv_icmp_eq (tgt := 962) hx hb dL_law_531 (by decide) (fun _ => ?_) (fun q => absurd Q1 q)
  exact kk (z6.2.1) (z6.2.2.1) (z6.2.2.2.1) (z6.2.2.2.2.1) (z6.2.2.2.2.2.2.2.2.1) (z6.2.2.2.2.2.2.2.2.2) (z6.2.2.2.2.2.1) (z6.2.2.2.2.2.2.1) (z6.2.2.2.2.2.2.2.1) (tu) (tw) (su) (sw) (g) (z7.2.1) (z7.2.2) (kn') (n') (RA_mono Q2 (by omega)) H locs hP hD hS ls (lv_sub hl [0, 1, 2, 3] rfl)
set_option maxHeartbeats 4000000 in
set_option maxRecDepth 100000 in
theorem lc_14 (C0 : lw_At p s m meth c b L xs) (hK : KK D cyC cyI cyO s) (hNC : NC ≤ room_1.cells) (hNS : NS ≤ room_1.slots) (hi : 5 * i + 5 ≤ L) (hL : L ≤ 2560) (rt : Nat → Int32) (sg : Nat → Nat → Int32) (pw rd : Nat → Int32) (u : Nat → Nat → Int32) (w : Nat → Int32) (h : Nat → (Nat → Nat → Int32) × (Nat → Int32)) (r : Nat) (v : Nat → Int32) (tu : Nat → Nat → Int32) (tw : Nat → Int32) (su : Nat → Nat → Int32) (sw : Nat → Int32) (g : Nat → Nat → Int32) (mm : Nat → Nat → Int32) (xx : Nat → Int32) (kn n : Nat) (H0 : RA (128 * i) rt sg pw u w h r v su sw mm xx kn n) (kk : LK p l e s m below meth c b D cyC cyI cyO Z C TR SN HI Y P R A BB NC NS i) : ∀ (H : Heap) (locs : List Loc), va_P D vwCl (List.flatten [wRt Z C TR SN HI Y P R rt, wPd cyC P sg pw, wRd R P rd, wC cyI C u w, wHM cyI cyO HI BB h r v, wC cyI TR tu tw, wC cyI SN su sw, wWy cyI Y g, wM cyI A mm xx]) H → va_D (fun q : Nat => s.heap.size ≤ q) (List.flatten [wRt Z C TR SN HI Y P R rt, wPd cyC P sg pw, wRd R P rd, wC cyI C u w, wHM cyI cyO HI BB h r v, wC cyI TR tu tw, wC cyI SN su sw, wWy cyI Y g, wM cyI A mm xx]) → va_S (fun q : Nat => s.heap.size ≤ q) s.heap H locs → ∀ (ls : Array Slot), lv_has ls 8 [(0, .ref b), (1, .ref (Z 0)), (2, .ref (A 0)), (3, .int (nI (5 * i)))] → W p l e room_1 s m (#[Value.ref b] : Array Value) below meth c H locs NC NS (lw_Z below #[Value.ref b] s) (F0 m 536 ls []) := by
  intro H locs hP hD hS ls hl
  obtain ⟨hx, hb, hr, hml, hown, hts0, hX, hbl, hlocks, hgv⟩ := C0
  have hown : s.vm.findClass RL = some m.cls := hown
  have hts : ∀ w ∈ TB, w.before (#[Value.ref b] : Array Value) s = true := fun w h => hts0 w (List.mem_filter.mp h).1
  have hA : ∀ q : Nat, s.heap.size ≤ q → (fun q : Nat => s.heap.size ≤ q) q := fun _ h => h
  have hbA : ¬ (fun q : Nat => s.heap.size ≤ q) b := Nat.not_le.mpr hbl
  obtain ⟨f_r, f_q, f_ch, f_kn, f_k, f_m3, f_ln, f_l7, f_l6, f_7, f_n⟩ := RA_facts H0
  have f_N : 128 * i < 100000000 := by omega
  have f_N2 : 128 * i < 900000 := by omega
  have f_N3 : 128 * i < 800000 := by omega
  obtain ⟨z6, hz6⟩ : ∃ q, q = (pX6_why rt sg pw rd u w h r v tu tw su sw g (xs (nI (5 * i) + (1 : Int32)).toNatClampNeg)) := ⟨_, rfl⟩
  obtain ⟨z7, hz7⟩ : ∃ q, q = (pX7_why mm xx (xs (nI (5 * i) + (1 : Int32)).toNatClampNeg)) := ⟨_, rfl⟩
  have Q := q_why (rt := rt) (sg := sg) (pw := pw) (rd := rd) (u := u) (w := w) (h := h) (r := r) (v := v) (tu := tu) (tw := tw) (su := su) (sw := sw) (g := g) H0 (xs (nI (5 * i) + (1 : Int32)).toNatClampNeg)
  rw [← hz6, ← hz7] at Q
  have Q1 := Q
  have Q2 := H0
  refine lv_aload_n hx hb dL_law_536 rfl (lv_at hl 1 rfl) ?_
  refine lv_aload_n hx hb dL_law_537 rfl (lv_at hl 0 rfl) ?_
  refine lv_iload_n hx hb dL_law_538 rfl (lv_at hl 3 rfl) ?_
  refine lv_iconst (v := 1) hx hb dL_law_539 (by decide) ?_
  refine lv_iadd hx hb dL_law_540 ?_
  refine va_sld hx hb hX hbl hbA hS (vq1 hi hL) dL_law_541 ?_
  refine rVB (bl := [wRt Z C TR SN HI Y P R rt, wPd cyC P sg pw, wRd R P rd, wC cyI C u w, wHM cyI cyO HI BB h r v, wC cyI TR tu tw, wC cyI SN su sw, wWy cyI Y g, wM cyI A mm xx]) (WSb := [wRt Z C TR SN HI Y P R rt, wPd cyC P sg pw, wRd R P rd, wC cyI C u w, wHM cyI cyO HI BB h r v, wC cyI TR tu tw, wC cyI SN su sw, wWy cyI Y g]) (As := [.int (xs (nI (5 * i) + (1 : Int32)).toNatClampNeg)]) (rest := []) (r := z6) hx hb hml hown hts hl.1 (WS := (List.flatten [wRt Z C TR SN HI Y P R rt, wPd cyC P sg pw, wRd R P rd, wC cyI C u w, wHM cyI cyO HI BB h r v, wC cyI TR tu tw, wC cyI SN su sw, wWy cyI Y g])) (by rw [hz6]; exact kX6_why l D cyC cyI cyO Z C TR SN HI Y P R BB rt sg pw rd u w h r v tu tw su sw g (xs (nI (5 * i) + (1 : Int32)).toNatClampNeg) ) bV_X6_why wml_RL_73 ⟨rfl, rfl⟩ ⟨Nat.le_of_ble_eq_true rfl, Nat.le_of_ble_eq_true rfl, hNC, hNS⟩ [0, 1, 2, 3, 4, 5, 6, 7] rfl rfl hP hK 0 rfl rfl rfl rfl rfl (Nat.le_of_ble_eq_true rfl) dL_law_542 ?_
  refine lv_aload_n hx hb dL_law_545 rfl (lv_at hl 2 rfl) ?_
  refine lv_aload_n hx hb dL_law_546 rfl (lv_at hl 0 rfl) ?_
  refine lv_iload_n hx hb dL_law_547 rfl (lv_at hl 3 rfl) ?_
  refine lv_iconst (v := 1) hx hb dL_law_548 (by decide) ?_
  refine lv_iadd hx hb dL_law_549 ?_
  refine va_sld hx hb hX hbl hbA hS (vq1 hi hL) dL_law_550 ?_
  refine rVB (bl := [wRt Z C TR SN HI Y P R rt, wPd cyC P sg pw, wRd R P rd, wC cyI C u w, wHM cyI cyO HI BB h r v, wC cyI TR tu tw, wC cyI SN su sw, wWy cyI Y g, wM cyI A mm xx]) (WSb := [wM cyI A mm xx]) (As := [.int (xs (nI (5 * i) + (1 : Int32)).toNatClampNeg)]) (rest := [.int z6]) (r := z7) hx hb hml hown hts hl.1 (WS := (wM cyI A mm xx)) (by rw [hz7]; exact kX7_why l D cyC cyI cyO A mm xx (xs (nI (5 * i) + (1 : Int32)).toNatClampNeg) ) bV_X7_why wml_RL_76 ⟨rfl, rfl⟩ ⟨Nat.le_of_ble_eq_true rfl, Nat.le_of_ble_eq_true rfl, hNC, hNS⟩ [8] (by simp only [List.flatten_cons, List.flatten_nil, List.append_nil]) rfl hP hK 0 rfl rfl rfl rfl rfl (Nat.le_of_ble_eq_true rfl) dL_law_551 ?_
  refine lv_icmp_eq (tgt := 962) hx hb dL_law_554 (by decide) (fun _ => ?_) (fun q => absurd Q1 q)
  exact kk (rt) (sg) (pw) (rd) (u) (w) (h) (r) (v) (tu) (tw) (su) (sw) (g) (mm) (xx) (kn) (n) (RA_mono Q2 (by omega)) H locs hP hD hS ls (lv_sub hl [0, 1, 2, 3] rfl)
set_option maxHeartbeats 4000000 in
set_option maxRecDepth 100000 in
theorem lc_15 (C0 : lw_At p s m meth c b L xs) (hK : KK D cyC cyI cyO s) (hNC : NC ≤ room_1.cells) (hNS : NS ≤ room_1.slots) (hi : 5 * i + 5 ≤ L) (hL : L ≤ 2560) (rt : Nat → Int32) (sg : Nat → Nat → Int32) (pw rd : Nat → Int32) (u : Nat → Nat → Int32) (w : Nat → Int32) (h : Nat → (Nat → Nat → Int32) × (Nat → Int32)) (r : Nat) (v : Nat → Int32) (tu : Nat → Nat → Int32) (tw : Nat → Int32) (su : Nat → Nat → Int32) (sw : Nat → Int32) (g : Nat → Nat → Int32) (mm : Nat → Nat → Int32) (xx : Nat → Int32) (kn n : Nat) (H0 : RA (128 * i) rt sg pw u w h r v su sw mm xx kn n) (kk : LK p l e s m below meth c b D cyC cyI cyO Z C TR SN HI Y P R A BB NC NS i) : ∀ (H : Heap) (locs : List Loc), va_P D vwCl (List.flatten [wRt Z C TR SN HI Y P R rt, wPd cyC P sg pw, wRd R P rd, wC cyI C u w, wHM cyI cyO HI BB h r v, wC cyI TR tu tw, wC cyI SN su sw, wWy cyI Y g, wM cyI A mm xx]) H → va_D (fun q : Nat => s.heap.size ≤ q) (List.flatten [wRt Z C TR SN HI Y P R rt, wPd cyC P sg pw, wRd R P rd, wC cyI C u w, wHM cyI cyO HI BB h r v, wC cyI TR tu tw, wC cyI SN su sw, wWy cyI Y g, wM cyI A mm xx]) → va_S (fun q : Nat => s.heap.size ≤ q) s.heap H locs → ∀ (ls : Array Slot), lv_has ls 8 [(0, .ref b), (1, .ref (Z 0)), (2, .ref (A 0)), (3, .int (nI (5 * i)))] → W p l e room_1 s m (#[Value.ref b] : Array Value) below meth c H locs NC NS (lw_Z below #[Value.ref b] s) (F0 m 559 ls []) := by
  intro H locs hP hD hS ls hl
  obtain ⟨hx, hb, hr, hml, hown, hts0, hX, hbl, hlocks, hgv⟩ := C0
  have hown : s.vm.findClass RL = some m.cls := hown
  have hts : ∀ w ∈ TB, w.before (#[Value.ref b] : Array Value) s = true := fun w h => hts0 w (List.mem_filter.mp h).1
  have hA : ∀ q : Nat, s.heap.size ≤ q → (fun q : Nat => s.heap.size ≤ q) q := fun _ h => h
  have hbA : ¬ (fun q : Nat => s.heap.size ≤ q) b := Nat.not_le.mpr hbl
  obtain ⟨f_r, f_q, f_ch, f_kn, f_k, f_m3, f_ln, f_l7, f_l6, f_7, f_n⟩ := RA_facts H0
  have f_N : 128 * i < 100000000 := by omega
  have f_N2 : 128 * i < 900000 := by omega
  have f_N3 : 128 * i < 800000 := by omega
  obtain ⟨z6, hz6⟩ : ∃ q, q = (pX6_roof rt sg pw rd u w h r v tu tw su sw g (xs (nI (5 * i) + (1 : Int32)).toNatClampNeg) (xs (nI (5 * i) + (2 : Int32)).toNatClampNeg)) := ⟨_, rfl⟩
  obtain ⟨z7, hz7⟩ : ∃ q, q = (pX7_roof mm xx (xs (nI (5 * i) + (1 : Int32)).toNatClampNeg) (xs (nI (5 * i) + (2 : Int32)).toNatClampNeg)) := ⟨_, rfl⟩
  have Q := q_roof (rt := rt) (sg := sg) (pw := pw) (rd := rd) (u := u) (w := w) (h := h) (r := r) (v := v) (tu := tu) (tw := tw) (su := su) (sw := sw) (g := g) H0 f_N2 (xs (nI (5 * i) + (1 : Int32)).toNatClampNeg) (xs (nI (5 * i) + (2 : Int32)).toNatClampNeg)
  rw [← hz6, ← hz7] at Q
  have Q1 := Q
  have Q2 := H0
  refine lv_aload_n hx hb dL_law_559 rfl (lv_at hl 1 rfl) ?_
  refine lv_aload_n hx hb dL_law_560 rfl (lv_at hl 0 rfl) ?_
  refine lv_iload_n hx hb dL_law_561 rfl (lv_at hl 3 rfl) ?_
  refine lv_iconst (v := 1) hx hb dL_law_562 (by decide) ?_
  refine lv_iadd hx hb dL_law_563 ?_
  refine va_sld hx hb hX hbl hbA hS (vq1 hi hL) dL_law_564 ?_
  refine lv_aload_n hx hb dL_law_565 rfl (lv_at hl 0 rfl) ?_
  refine lv_iload_n hx hb dL_law_566 rfl (lv_at hl 3 rfl) ?_
  refine lv_iconst (v := 2) hx hb dL_law_567 (by decide) ?_
  refine lv_iadd hx hb dL_law_568 ?_
  refine va_sld hx hb hX hbl hbA hS (vq2 hi hL) dL_law_569 ?_
  refine rVB (bl := [wRt Z C TR SN HI Y P R rt, wPd cyC P sg pw, wRd R P rd, wC cyI C u w, wHM cyI cyO HI BB h r v, wC cyI TR tu tw, wC cyI SN su sw, wWy cyI Y g, wM cyI A mm xx]) (WSb := [wRt Z C TR SN HI Y P R rt, wPd cyC P sg pw, wRd R P rd, wC cyI C u w, wHM cyI cyO HI BB h r v, wC cyI TR tu tw, wC cyI SN su sw, wWy cyI Y g]) (As := [.int (xs (nI (5 * i) + (1 : Int32)).toNatClampNeg), .int (xs (nI (5 * i) + (2 : Int32)).toNatClampNeg)]) (rest := []) (r := z6) hx hb hml hown hts hl.1 (WS := (List.flatten [wRt Z C TR SN HI Y P R rt, wPd cyC P sg pw, wRd R P rd, wC cyI C u w, wHM cyI cyO HI BB h r v, wC cyI TR tu tw, wC cyI SN su sw, wWy cyI Y g])) (by rw [hz6]; exact kX6_roof l D cyC cyI cyO Z C TR SN HI Y P R BB rt sg pw rd u w h r v tu tw su sw g (xs (nI (5 * i) + (1 : Int32)).toNatClampNeg) (xs (nI (5 * i) + (2 : Int32)).toNatClampNeg) f_q) bV_X6_roof wml_RL_77 ⟨rfl, rfl⟩ ⟨Nat.le_of_ble_eq_true rfl, Nat.le_of_ble_eq_true rfl, hNC, hNS⟩ [0, 1, 2, 3, 4, 5, 6, 7] rfl rfl hP hK 0 rfl rfl rfl rfl rfl (Nat.le_of_ble_eq_true rfl) dL_law_570 ?_
  refine lv_aload_n hx hb dL_law_573 rfl (lv_at hl 2 rfl) ?_
  refine lv_aload_n hx hb dL_law_574 rfl (lv_at hl 0 rfl) ?_
  refine lv_iload_n hx hb dL_law_575 rfl (lv_at hl 3 rfl) ?_
  refine lv_iconst (v := 1) hx hb dL_law_576 (by decide) ?_
  refine lv_iadd hx hb dL_law_577 ?_
  refine va_sld hx hb hX hbl hbA hS (vq1 hi hL) dL_law_578 ?_
  refine lv_aload_n hx hb dL_law_579 rfl (lv_at hl 0 rfl) ?_
  refine lv_iload_n hx hb dL_law_580 rfl (lv_at hl 3 rfl) ?_
  refine lv_iconst (v := 2) hx hb dL_law_581 (by decide) ?_
  refine lv_iadd hx hb dL_law_582 ?_
  refine va_sld hx hb hX hbl hbA hS (vq2 hi hL) dL_law_583 ?_
  refine rVB (bl := [wRt Z C TR SN HI Y P R rt, wPd cyC P sg pw, wRd R P rd, wC cyI C u w, wHM cyI cyO HI BB h r v, wC cyI TR tu tw, wC cyI SN su sw, wWy cyI Y g, wM cyI A mm xx]) (WSb := [wM cyI A mm xx]) (As := [.int (xs (nI (5 * i) + (1 : Int32)).toNatClampNeg), .int (xs (nI (5 * i) + (2 : Int32)).toNatClampNeg)]) (rest := [.int z6]) (r := z7) hx hb hml hown hts hl.1 (WS := (wM cyI A mm xx)) (by rw [hz7]; exact kX7_roof l D cyC cyI cyO A mm xx (xs (nI (5 * i) + (1 : Int32)).toNatClampNeg) (xs (nI (5 * i) + (2 : Int32)).toNatClampNeg) f_m3) bV_X7_roof wml_RL_80 ⟨rfl, rfl⟩ ⟨Nat.le_of_ble_eq_true rfl, Nat.le_of_ble_eq_true rfl, hNC, hNS⟩ [8] (by simp only [List.flatten_cons, List.flatten_nil, List.append_nil]) rfl hP hK 0 rfl rfl rfl rfl rfl (Nat.le_of_ble_eq_true rfl) dL_law_584 ?_
  refine lv_icmp_eq (tgt := 962) hx hb dL_law_587 (by decide) (fun _ => ?_) (fun q => absurd Q1 q)
  exact kk (rt) (sg) (pw) (rd) (u) (w) (h) (r) (v) (tu) (tw) (su) (sw) (g) (mm) (xx) (kn) (n) (RA_mono Q2 (by omega)) H locs hP hD hS ls (lv_sub hl [0, 1, 2, 3] rfl)
end LAWC
