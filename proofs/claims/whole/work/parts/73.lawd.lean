section LAWC
variable {p : Program} {l : Launch} {e : Env} {s : State} {m : MethodId} {below : List Frame} {meth : Method} {c : Code} {b L : Nat} {xs : Nat → Int32} {D : va_G} {cyC cyI cyO : ClassId} {Z C TR SN HI Y P R A : Nat → Nat} {BB : Nat → Nat → Nat} {NC NS i : Nat}
set_option maxHeartbeats 4000000 in
set_option maxRecDepth 100000 in
theorem lc_23 (C0 : lw_At p s m meth c b L xs) (hK : KK D cyC cyI cyO s) (hNC : NC ≤ room_1.cells) (hNS : NS ≤ room_1.slots) (hi : 5 * i + 5 ≤ L) (hL : L ≤ 2560) (rt : Nat → Int32) (sg : Nat → Nat → Int32) (pw rd : Nat → Int32) (u : Nat → Nat → Int32) (w : Nat → Int32) (h : Nat → (Nat → Nat → Int32) × (Nat → Int32)) (r : Nat) (v : Nat → Int32) (tu : Nat → Nat → Int32) (tw : Nat → Int32) (su : Nat → Nat → Int32) (sw : Nat → Int32) (g : Nat → Nat → Int32) (mm : Nat → Nat → Int32) (xx : Nat → Int32) (kn n : Nat) (H0 : RA (128 * i) rt sg pw u w h r v su sw mm xx kn n) (kk : LK p l e s m below meth c b D cyC cyI cyO Z C TR SN HI Y P R A BB NC NS i) : ∀ (H : Heap) (locs : List Loc), va_P D vwCl (List.flatten [wRt Z C TR SN HI Y P R rt, wPd cyC P sg pw, wRd R P rd, wC cyI C u w, wHM cyI cyO HI BB h r v, wC cyI TR tu tw, wC cyI SN su sw, wWy cyI Y g, wM cyI A mm xx]) H → va_D (fun q : Nat => s.heap.size ≤ q) (List.flatten [wRt Z C TR SN HI Y P R rt, wPd cyC P sg pw, wRd R P rd, wC cyI C u w, wHM cyI cyO HI BB h r v, wC cyI TR tu tw, wC cyI SN su sw, wWy cyI Y g, wM cyI A mm xx]) → va_S (fun q : Nat => s.heap.size ≤ q) s.heap H locs → ∀ (ls : Array Slot), lv_has ls 8 [(0, .ref b), (1, .ref (Z 0)), (2, .ref (A 0)), (3, .int (nI (5 * i)))] → W p l e room_1 s m (#[Value.ref b] : Array Value) below meth c H locs NC NS (lw_Z below #[Value.ref b] s) (F0 m 831 ls []) := by
  intro H locs hP hD hS ls hl
  obtain ⟨hx, hb, hr, hml, hown, hts0, hX, hbl, hlocks, hgv⟩ := C0
  have hown : s.vm.findClass RL = some m.cls := hown
  have hts : ∀ w ∈ TB, w.before (#[Value.ref b] : Array Value) s = true := fun w h => hts0 w (List.mem_filter.mp h).1
  have hA : ∀ q : Nat, s.heap.size ≤ q → (fun q : Nat => s.heap.size ≤ q) q := fun _ h => h
  have hbA : ¬ (fun q : Nat => s.heap.size ≤ q) b := Nat.not_le.mpr hbl
  obtain ⟨f_r, f_q, f_ch, f_kn, f_k, f_m3, f_ln, f_l7, f_l6, f_7, f_n⟩ := RA_facts H0
  have f_N : 128 * i < 100000000 := by omega
  have f_N2 : 128 * i < 900000 := by omega
  have f_N3 : 128 * i < 800000 := by omega
  obtain ⟨z6, hz6⟩ : ∃ q, q = (pX6_ifWind rt sg pw rd u w h r v tu tw su sw g (xs (nI (5 * i) + (1 : Int32)).toNatClampNeg)) := ⟨_, rfl⟩
  obtain ⟨z7, hz7⟩ : ∃ q, q = (pX7_ifWind mm xx (xs (nI (5 * i) + (1 : Int32)).toNatClampNeg)) := ⟨_, rfl⟩
  have Q := q_ifWind (rt := rt) (sg := sg) (pw := pw) (rd := rd) (u := u) (w := w) (h := h) (r := r) (v := v) (tu := tu) (tw := tw) (su := su) (sw := sw) (g := g) H0 (xs (nI (5 * i) + (1 : Int32)).toNatClampNeg)
  rw [← hz6, ← hz7] at Q
  have Q1 := Q
  have Q2 := H0
  refine lv_aload_n hx hb dL_law_831 rfl (lv_at hl 1 rfl) ?_
  refine lv_aload_n hx hb dL_law_832 rfl (lv_at hl 0 rfl) ?_
  refine lv_iload_n hx hb dL_law_833 rfl (lv_at hl 3 rfl) ?_
  refine lv_iconst (v := 1) hx hb dL_law_834 (by decide) ?_
  refine lv_iadd hx hb dL_law_835 ?_
  refine va_sld hx hb hX hbl hbA hS (vq1 hi hL) dL_law_836 ?_
  refine rVB (bl := [wRt Z C TR SN HI Y P R rt, wPd cyC P sg pw, wRd R P rd, wC cyI C u w, wHM cyI cyO HI BB h r v, wC cyI TR tu tw, wC cyI SN su sw, wWy cyI Y g, wM cyI A mm xx]) (WSb := [wRt Z C TR SN HI Y P R rt, wPd cyC P sg pw, wRd R P rd, wC cyI C u w, wHM cyI cyO HI BB h r v, wC cyI TR tu tw, wC cyI SN su sw, wWy cyI Y g]) (As := [.int (xs (nI (5 * i) + (1 : Int32)).toNatClampNeg)]) (rest := []) (r := z6) hx hb hml hown hts hl.1 (WS := (List.flatten [wRt Z C TR SN HI Y P R rt, wPd cyC P sg pw, wRd R P rd, wC cyI C u w, wHM cyI cyO HI BB h r v, wC cyI TR tu tw, wC cyI SN su sw, wWy cyI Y g])) (by rw [hz6]; exact kX6_ifWind l D cyC cyI cyO Z C TR SN HI Y P R BB rt sg pw rd u w h r v tu tw su sw g (xs (nI (5 * i) + (1 : Int32)).toNatClampNeg) f_q) bV_X6_ifWind wml_RL_111 ⟨rfl, rfl⟩ ⟨Nat.le_of_ble_eq_true rfl, Nat.le_of_ble_eq_true rfl, hNC, hNS⟩ [0, 1, 2, 3, 4, 5, 6, 7] rfl rfl hP hK 0 rfl rfl rfl rfl rfl (Nat.le_of_ble_eq_true rfl) dL_law_837 ?_
  refine lv_aload_n hx hb dL_law_840 rfl (lv_at hl 2 rfl) ?_
  refine lv_aload_n hx hb dL_law_841 rfl (lv_at hl 0 rfl) ?_
  refine lv_iload_n hx hb dL_law_842 rfl (lv_at hl 3 rfl) ?_
  refine lv_iconst (v := 1) hx hb dL_law_843 (by decide) ?_
  refine lv_iadd hx hb dL_law_844 ?_
  refine va_sld hx hb hX hbl hbA hS (vq1 hi hL) dL_law_845 ?_
  refine rVB (bl := [wRt Z C TR SN HI Y P R rt, wPd cyC P sg pw, wRd R P rd, wC cyI C u w, wHM cyI cyO HI BB h r v, wC cyI TR tu tw, wC cyI SN su sw, wWy cyI Y g, wM cyI A mm xx]) (WSb := [wM cyI A mm xx]) (As := [.int (xs (nI (5 * i) + (1 : Int32)).toNatClampNeg)]) (rest := [.int z6]) (r := z7) hx hb hml hown hts hl.1 (WS := (wM cyI A mm xx)) (by rw [hz7]; exact kX7_ifWind l D cyC cyI cyO A mm xx (xs (nI (5 * i) + (1 : Int32)).toNatClampNeg) f_m3) bV_X7_ifWind wml_RL_114 ⟨rfl, rfl⟩ ⟨Nat.le_of_ble_eq_true rfl, Nat.le_of_ble_eq_true rfl, hNC, hNS⟩ [8] (by simp only [List.flatten_cons, List.flatten_nil, List.append_nil]) rfl hP hK 0 rfl rfl rfl rfl rfl (Nat.le_of_ble_eq_true rfl) dL_law_846 ?_
  refine lv_icmp_eq (tgt := 962) hx hb dL_law_849 (by decide) (fun _ => ?_) (fun q => absurd Q1 q)
  exact kk (rt) (sg) (pw) (rd) (u) (w) (h) (r) (v) (tu) (tw) (su) (sw) (g) (mm) (xx) (kn) (n) (RA_mono Q2 (by omega)) H locs hP hD hS ls (lv_sub hl [0, 1, 2, 3] rfl)
set_option maxHeartbeats 4000000 in
set_option maxRecDepth 100000 in
theorem lc_24 (C0 : lw_At p s m meth c b L xs) (hK : KK D cyC cyI cyO s) (hNC : NC ≤ room_1.cells) (hNS : NS ≤ room_1.slots) (hi : 5 * i + 5 ≤ L) (hL : L ≤ 2560) (rt : Nat → Int32) (sg : Nat → Nat → Int32) (pw rd : Nat → Int32) (u : Nat → Nat → Int32) (w : Nat → Int32) (h : Nat → (Nat → Nat → Int32) × (Nat → Int32)) (r : Nat) (v : Nat → Int32) (tu : Nat → Nat → Int32) (tw : Nat → Int32) (su : Nat → Nat → Int32) (sw : Nat → Int32) (g : Nat → Nat → Int32) (mm : Nat → Nat → Int32) (xx : Nat → Int32) (kn n : Nat) (H0 : RA (128 * i) rt sg pw u w h r v su sw mm xx kn n) (kk : LK p l e s m below meth c b D cyC cyI cyO Z C TR SN HI Y P R A BB NC NS i) : ∀ (H : Heap) (locs : List Loc), va_P D vwCl (List.flatten [wRt Z C TR SN HI Y P R rt, wPd cyC P sg pw, wRd R P rd, wC cyI C u w, wHM cyI cyO HI BB h r v, wC cyI TR tu tw, wC cyI SN su sw, wWy cyI Y g, wM cyI A mm xx]) H → va_D (fun q : Nat => s.heap.size ≤ q) (List.flatten [wRt Z C TR SN HI Y P R rt, wPd cyC P sg pw, wRd R P rd, wC cyI C u w, wHM cyI cyO HI BB h r v, wC cyI TR tu tw, wC cyI SN su sw, wWy cyI Y g, wM cyI A mm xx]) → va_S (fun q : Nat => s.heap.size ≤ q) s.heap H locs → ∀ (ls : Array Slot), lv_has ls 8 [(0, .ref b), (1, .ref (Z 0)), (2, .ref (A 0)), (3, .int (nI (5 * i)))] → W p l e room_1 s m (#[Value.ref b] : Array Value) below meth c H locs NC NS (lw_Z below #[Value.ref b] s) (F0 m 854 ls []) := by
  intro H locs hP hD hS ls hl
  obtain ⟨hx, hb, hr, hml, hown, hts0, hX, hbl, hlocks, hgv⟩ := C0
  have hown : s.vm.findClass RL = some m.cls := hown
  have hts : ∀ w ∈ TB, w.before (#[Value.ref b] : Array Value) s = true := fun w h => hts0 w (List.mem_filter.mp h).1
  have hA : ∀ q : Nat, s.heap.size ≤ q → (fun q : Nat => s.heap.size ≤ q) q := fun _ h => h
  have hbA : ¬ (fun q : Nat => s.heap.size ≤ q) b := Nat.not_le.mpr hbl
  obtain ⟨f_r, f_q, f_ch, f_kn, f_k, f_m3, f_ln, f_l7, f_l6, f_7, f_n⟩ := RA_facts H0
  have f_N : 128 * i < 100000000 := by omega
  have f_N2 : 128 * i < 900000 := by omega
  have f_N3 : 128 * i < 800000 := by omega
  obtain ⟨z6, hz6⟩ : ∃ q, q = (pX6_bestWind rt sg pw rd u w h r v tu tw su sw g) := ⟨_, rfl⟩
  obtain ⟨z7, hz7⟩ : ∃ q, q = (pX7_bestWind mm xx) := ⟨_, rfl⟩
  have Q := q_bestWind (rt := rt) (sg := sg) (pw := pw) (rd := rd) (u := u) (w := w) (h := h) (r := r) (v := v) (tu := tu) (tw := tw) (su := su) (sw := sw) (g := g) H0
  rw [← hz6, ← hz7] at Q
  have Q1 := Q
  have Q2 := H0
  refine lv_aload_n hx hb dL_law_854 rfl (lv_at hl 1 rfl) ?_
  refine rVB (bl := [wRt Z C TR SN HI Y P R rt, wPd cyC P sg pw, wRd R P rd, wC cyI C u w, wHM cyI cyO HI BB h r v, wC cyI TR tu tw, wC cyI SN su sw, wWy cyI Y g, wM cyI A mm xx]) (WSb := [wRt Z C TR SN HI Y P R rt, wPd cyC P sg pw, wRd R P rd, wC cyI C u w, wHM cyI cyO HI BB h r v, wC cyI TR tu tw, wC cyI SN su sw, wWy cyI Y g]) (As := []) (rest := []) (r := z6) hx hb hml hown hts hl.1 (WS := (List.flatten [wRt Z C TR SN HI Y P R rt, wPd cyC P sg pw, wRd R P rd, wC cyI C u w, wHM cyI cyO HI BB h r v, wC cyI TR tu tw, wC cyI SN su sw, wWy cyI Y g])) (by rw [hz6]; exact kX6_bestWind l D cyC cyI cyO Z C TR SN HI Y P R BB rt sg pw rd u w h r v tu tw su sw g f_q) bV_X6_bestWind wml_RL_115 ⟨rfl, rfl⟩ ⟨Nat.le_of_ble_eq_true rfl, Nat.le_of_ble_eq_true rfl, hNC, hNS⟩ [0, 1, 2, 3, 4, 5, 6, 7] rfl rfl hP hK 0 rfl rfl rfl rfl rfl (Nat.le_of_ble_eq_true rfl) dL_law_855 ?_
  refine lv_aload_n hx hb dL_law_858 rfl (lv_at hl 2 rfl) ?_
  refine rVB (bl := [wRt Z C TR SN HI Y P R rt, wPd cyC P sg pw, wRd R P rd, wC cyI C u w, wHM cyI cyO HI BB h r v, wC cyI TR tu tw, wC cyI SN su sw, wWy cyI Y g, wM cyI A mm xx]) (WSb := [wM cyI A mm xx]) (As := []) (rest := [.int z6]) (r := z7) hx hb hml hown hts hl.1 (WS := (wM cyI A mm xx)) (by rw [hz7]; exact kX7_bestWind l D cyC cyI cyO A mm xx f_m3) bV_X7_bestWind wml_RL_118 ⟨rfl, rfl⟩ ⟨Nat.le_of_ble_eq_true rfl, Nat.le_of_ble_eq_true rfl, hNC, hNS⟩ [8] (by simp only [List.flatten_cons, List.flatten_nil, List.append_nil]) rfl hP hK 0 rfl rfl rfl rfl rfl (Nat.le_of_ble_eq_true rfl) dL_law_859 ?_
  refine lv_icmp_eq (tgt := 962) hx hb dL_law_862 (by decide) (fun _ => ?_) (fun q => absurd Q1 q)
  exact kk (rt) (sg) (pw) (rd) (u) (w) (h) (r) (v) (tu) (tw) (su) (sw) (g) (mm) (xx) (kn) (n) (RA_mono Q2 (by omega)) H locs hP hD hS ls (lv_sub hl [0, 1, 2, 3] rfl)
set_option maxHeartbeats 4000000 in
set_option maxRecDepth 100000 in
theorem lc_25 (C0 : lw_At p s m meth c b L xs) (hK : KK D cyC cyI cyO s) (hNC : NC ≤ room_1.cells) (hNS : NS ≤ room_1.slots) (hi : 5 * i + 5 ≤ L) (hL : L ≤ 2560) (rt : Nat → Int32) (sg : Nat → Nat → Int32) (pw rd : Nat → Int32) (u : Nat → Nat → Int32) (w : Nat → Int32) (h : Nat → (Nat → Nat → Int32) × (Nat → Int32)) (r : Nat) (v : Nat → Int32) (tu : Nat → Nat → Int32) (tw : Nat → Int32) (su : Nat → Nat → Int32) (sw : Nat → Int32) (g : Nat → Nat → Int32) (mm : Nat → Nat → Int32) (xx : Nat → Int32) (kn n : Nat) (H0 : RA (128 * i) rt sg pw u w h r v su sw mm xx kn n) (kk : LK p l e s m below meth c b D cyC cyI cyO Z C TR SN HI Y P R A BB NC NS i) : ∀ (H : Heap) (locs : List Loc), va_P D vwCl (List.flatten [wRt Z C TR SN HI Y P R rt, wPd cyC P sg pw, wRd R P rd, wC cyI C u w, wHM cyI cyO HI BB h r v, wC cyI TR tu tw, wC cyI SN su sw, wWy cyI Y g, wM cyI A mm xx]) H → va_D (fun q : Nat => s.heap.size ≤ q) (List.flatten [wRt Z C TR SN HI Y P R rt, wPd cyC P sg pw, wRd R P rd, wC cyI C u w, wHM cyI cyO HI BB h r v, wC cyI TR tu tw, wC cyI SN su sw, wWy cyI Y g, wM cyI A mm xx]) → va_S (fun q : Nat => s.heap.size ≤ q) s.heap H locs → ∀ (ls : Array Slot), lv_has ls 8 [(0, .ref b), (1, .ref (Z 0)), (2, .ref (A 0)), (3, .int (nI (5 * i)))] → W p l e room_1 s m (#[Value.ref b] : Array Value) below meth c H locs NC NS (lw_Z below #[Value.ref b] s) (F0 m 867 ls []) := by
  intro H locs hP hD hS ls hl
  obtain ⟨hx, hb, hr, hml, hown, hts0, hX, hbl, hlocks, hgv⟩ := C0
  have hown : s.vm.findClass RL = some m.cls := hown
  have hts : ∀ w ∈ TB, w.before (#[Value.ref b] : Array Value) s = true := fun w h => hts0 w (List.mem_filter.mp h).1
  have hA : ∀ q : Nat, s.heap.size ≤ q → (fun q : Nat => s.heap.size ≤ q) q := fun _ h => h
  have hbA : ¬ (fun q : Nat => s.heap.size ≤ q) b := Nat.not_le.mpr hbl
  obtain ⟨f_r, f_q, f_ch, f_kn, f_k, f_m3, f_ln, f_l7, f_l6, f_7, f_n⟩ := RA_facts H0
  have f_N : 128 * i < 100000000 := by omega
  have f_N2 : 128 * i < 900000 := by omega
  have f_N3 : 128 * i < 800000 := by omega
  obtain ⟨z6, hz6⟩ : ∃ q, q = (pX6_ifDays rt sg pw rd u w h r v tu tw su sw g (xs (nI (5 * i) + (1 : Int32)).toNatClampNeg) (xs (nI (5 * i) + (2 : Int32)).toNatClampNeg)) := ⟨_, rfl⟩
  obtain ⟨z7, hz7⟩ : ∃ q, q = (pX7_ifDays mm xx (xs (nI (5 * i) + (1 : Int32)).toNatClampNeg) (xs (nI (5 * i) + (2 : Int32)).toNatClampNeg)) := ⟨_, rfl⟩
  have Q := q_ifDays (rt := rt) (sg := sg) (pw := pw) (rd := rd) (u := u) (w := w) (h := h) (r := r) (v := v) (tu := tu) (tw := tw) (su := su) (sw := sw) (g := g) H0 f_N3 (xs (nI (5 * i) + (1 : Int32)).toNatClampNeg) (xs (nI (5 * i) + (2 : Int32)).toNatClampNeg)
  rw [← hz6, ← hz7] at Q
  obtain ⟨Q1, Q2⟩ := Q
  refine lv_aload_n hx hb dL_law_867 rfl (lv_at hl 1 rfl) ?_
  refine lv_aload_n hx hb dL_law_868 rfl (lv_at hl 0 rfl) ?_
  refine lv_iload_n hx hb dL_law_869 rfl (lv_at hl 3 rfl) ?_
  refine lv_iconst (v := 1) hx hb dL_law_870 (by decide) ?_
  refine lv_iadd hx hb dL_law_871 ?_
  refine va_sld hx hb hX hbl hbA hS (vq1 hi hL) dL_law_872 ?_
  refine lv_aload_n hx hb dL_law_873 rfl (lv_at hl 0 rfl) ?_
  refine lv_iload_n hx hb dL_law_874 rfl (lv_at hl 3 rfl) ?_
  refine lv_iconst (v := 2) hx hb dL_law_875 (by decide) ?_
  refine lv_iadd hx hb dL_law_876 ?_
  refine va_sld hx hb hX hbl hbA hS (vq2 hi hL) dL_law_877 ?_
  refine mVB (bl := [wRt Z C TR SN HI Y P R rt, wPd cyC P sg pw, wRd R P rd, wC cyI C u w, wHM cyI cyO HI BB h r v, wC cyI TR tu tw, wC cyI SN su sw, wWy cyI Y g, wM cyI A mm xx]) (bl' := [wRt Z C TR SN HI Y P R rt, wPd cyC P sg pw, wRd R P rd, wC cyI C u w, wHM cyI cyO HI BB h r v, wC cyI TR z6.2.1 z6.2.2, wC cyI SN su sw, wWy cyI Y g, wM cyI A mm xx]) (WSb := [wRt Z C TR SN HI Y P R rt, wPd cyC P sg pw, wRd R P rd, wC cyI C u w, wHM cyI cyO HI BB h r v, wC cyI TR tu tw, wC cyI SN su sw, wWy cyI Y g]) (WSb' := [wRt Z C TR SN HI Y P R rt, wPd cyC P sg pw, wRd R P rd, wC cyI C u w, wHM cyI cyO HI BB h r v, wC cyI TR z6.2.1 z6.2.2, wC cyI SN su sw, wWy cyI Y g]) (As := [.int (xs (nI (5 * i) + (1 : Int32)).toNatClampNeg), .int (xs (nI (5 * i) + (2 : Int32)).toNatClampNeg)]) (rest := []) hx hb hml hown hts hl.1 (WS := (List.flatten [wRt Z C TR SN HI Y P R rt, wPd cyC P sg pw, wRd R P rd, wC cyI C u w, wHM cyI cyO HI BB h r v, wC cyI TR tu tw, wC cyI SN su sw, wWy cyI Y g])) (WS' := (List.flatten [wRt Z C TR SN HI Y P R rt, wPd cyC P sg pw, wRd R P rd, wC cyI C u w, wHM cyI cyO HI BB h r v, wC cyI TR z6.2.1 z6.2.2, wC cyI SN su sw, wWy cyI Y g])) (ro := (some (.int z6.1))) (by rw [hz6]; exact kX6_ifDays l D cyC cyI cyO Z C TR SN HI Y P R BB rt sg pw rd u w h r v tu tw su sw g (xs (nI (5 * i) + (1 : Int32)).toNatClampNeg) (xs (nI (5 * i) + (2 : Int32)).toNatClampNeg) f_q) bV_X6_ifDays wml_RL_119 ⟨rfl, rfl⟩ ⟨Nat.le_of_ble_eq_true rfl, Nat.le_of_ble_eq_true rfl, hNC, hNS⟩ [0, 1, 2, 3, 4, 5, 6, 7] rfl rfl rfl rfl rfl rfl rfl hP hD hS hA hK 0 rfl rfl rfl rfl rfl (Nat.le_of_ble_eq_true rfl) dL_law_878 (fun H locs hP hD hS => ?_)
  refine lv_aload_n hx hb dL_law_881 rfl (lv_at hl 2 rfl) ?_
  refine lv_aload_n hx hb dL_law_882 rfl (lv_at hl 0 rfl) ?_
  refine lv_iload_n hx hb dL_law_883 rfl (lv_at hl 3 rfl) ?_
  refine lv_iconst (v := 1) hx hb dL_law_884 (by decide) ?_
  refine lv_iadd hx hb dL_law_885 ?_
  refine va_sld hx hb hX hbl hbA hS (vq1 hi hL) dL_law_886 ?_
  refine lv_aload_n hx hb dL_law_887 rfl (lv_at hl 0 rfl) ?_
  refine lv_iload_n hx hb dL_law_888 rfl (lv_at hl 3 rfl) ?_
  refine lv_iconst (v := 2) hx hb dL_law_889 (by decide) ?_
  refine lv_iadd hx hb dL_law_890 ?_
  refine va_sld hx hb hX hbl hbA hS (vq2 hi hL) dL_law_891 ?_
  refine mVB (bl := [wRt Z C TR SN HI Y P R rt, wPd cyC P sg pw, wRd R P rd, wC cyI C u w, wHM cyI cyO HI BB h r v, wC cyI TR z6.2.1 z6.2.2, wC cyI SN su sw, wWy cyI Y g, wM cyI A mm xx]) (bl' := [wRt Z C TR SN HI Y P R rt, wPd cyC P sg pw, wRd R P rd, wC cyI C u w, wHM cyI cyO HI BB h r v, wC cyI TR z6.2.1 z6.2.2, wC cyI SN su sw, wWy cyI Y g, wM cyI A z7.2.1 z7.2.2]) (WSb := [wM cyI A mm xx]) (WSb' := [wM cyI A z7.2.1 z7.2.2]) (As := [.int (xs (nI (5 * i) + (1 : Int32)).toNatClampNeg), .int (xs (nI (5 * i) + (2 : Int32)).toNatClampNeg)]) (rest := [.int z6.1]) hx hb hml hown hts hl.1 (WS := (wM cyI A mm xx)) (WS' := (wM cyI A z7.2.1 z7.2.2)) (ro := (some (.int z7.1))) (by rw [hz7]; exact kX7_ifDays l D cyC cyI cyO A mm xx (xs (nI (5 * i) + (1 : Int32)).toNatClampNeg) (xs (nI (5 * i) + (2 : Int32)).toNatClampNeg) f_m3 f_ln) bV_X7_ifDays wml_RL_122 ⟨rfl, rfl⟩ ⟨Nat.le_of_ble_eq_true rfl, Nat.le_of_ble_eq_true rfl, hNC, hNS⟩ [8] (by simp only [List.flatten_cons, List.flatten_nil, List.append_nil]) (by simp only [List.flatten_cons, List.flatten_nil, List.append_nil]) rfl rfl rfl rfl rfl hP hD hS hA hK 0 rfl rfl rfl rfl rfl (Nat.le_of_ble_eq_true rfl) dL_law_892 (fun H locs hP hD hS => ?_)
  refine lv_icmp_eq (tgt := 962) hx hb dL_law_895 (by decide) (fun _ => ?_) (fun q => absurd Q1 q)
  exact kk (rt) (sg) (pw) (rd) (u) (w) (h) (r) (v) (z6.2.1) (z6.2.2) (su) (sw) (g) (z7.2.1) (z7.2.2) (kn) (n) (RA_mono Q2 (by omega)) H locs hP hD hS ls (lv_sub hl [0, 1, 2, 3] rfl)
set_option maxHeartbeats 4000000 in
set_option maxRecDepth 100000 in
theorem lc_26 (C0 : lw_At p s m meth c b L xs) (hK : KK D cyC cyI cyO s) (hNC : NC ≤ room_1.cells) (hNS : NS ≤ room_1.slots) (hi : 5 * i + 5 ≤ L) (hL : L ≤ 2560) (rt : Nat → Int32) (sg : Nat → Nat → Int32) (pw rd : Nat → Int32) (u : Nat → Nat → Int32) (w : Nat → Int32) (h : Nat → (Nat → Nat → Int32) × (Nat → Int32)) (r : Nat) (v : Nat → Int32) (tu : Nat → Nat → Int32) (tw : Nat → Int32) (su : Nat → Nat → Int32) (sw : Nat → Int32) (g : Nat → Nat → Int32) (mm : Nat → Nat → Int32) (xx : Nat → Int32) (kn n : Nat) (H0 : RA (128 * i) rt sg pw u w h r v su sw mm xx kn n) (kk : LK p l e s m below meth c b D cyC cyI cyO Z C TR SN HI Y P R A BB NC NS i) : ∀ (H : Heap) (locs : List Loc), va_P D vwCl (List.flatten [wRt Z C TR SN HI Y P R rt, wPd cyC P sg pw, wRd R P rd, wC cyI C u w, wHM cyI cyO HI BB h r v, wC cyI TR tu tw, wC cyI SN su sw, wWy cyI Y g, wM cyI A mm xx]) H → va_D (fun q : Nat => s.heap.size ≤ q) (List.flatten [wRt Z C TR SN HI Y P R rt, wPd cyC P sg pw, wRd R P rd, wC cyI C u w, wHM cyI cyO HI BB h r v, wC cyI TR tu tw, wC cyI SN su sw, wWy cyI Y g, wM cyI A mm xx]) → va_S (fun q : Nat => s.heap.size ≤ q) s.heap H locs → ∀ (ls : Array Slot), lv_has ls 8 [(0, .ref b), (1, .ref (Z 0)), (2, .ref (A 0)), (3, .int (nI (5 * i)))] → W p l e room_1 s m (#[Value.ref b] : Array Value) below meth c H locs NC NS (lw_Z below #[Value.ref b] s) (F0 m 900 ls []) := by
  intro H locs hP hD hS ls hl
  obtain ⟨hx, hb, hr, hml, hown, hts0, hX, hbl, hlocks, hgv⟩ := C0
  have hown : s.vm.findClass RL = some m.cls := hown
  have hts : ∀ w ∈ TB, w.before (#[Value.ref b] : Array Value) s = true := fun w h => hts0 w (List.mem_filter.mp h).1
  have hA : ∀ q : Nat, s.heap.size ≤ q → (fun q : Nat => s.heap.size ≤ q) q := fun _ h => h
  have hbA : ¬ (fun q : Nat => s.heap.size ≤ q) b := Nat.not_le.mpr hbl
  obtain ⟨f_r, f_q, f_ch, f_kn, f_k, f_m3, f_ln, f_l7, f_l6, f_7, f_n⟩ := RA_facts H0
  have f_N : 128 * i < 100000000 := by omega
  have f_N2 : 128 * i < 900000 := by omega
  have f_N3 : 128 * i < 800000 := by omega
  obtain ⟨z6, hz6⟩ : ∃ q, q = (pX6_bestPlace rt sg pw rd u w h r v tu tw su sw g (xs (nI (5 * i) + (1 : Int32)).toNatClampNeg)) := ⟨_, rfl⟩
  obtain ⟨z7, hz7⟩ : ∃ q, q = (pX7_bestPlace mm xx (xs (nI (5 * i) + (1 : Int32)).toNatClampNeg)) := ⟨_, rfl⟩
  have Q := q_bestPlace (rt := rt) (sg := sg) (pw := pw) (rd := rd) (u := u) (w := w) (h := h) (r := r) (v := v) (tu := tu) (tw := tw) (su := su) (sw := sw) (g := g) H0 (xs (nI (5 * i) + (1 : Int32)).toNatClampNeg)
  rw [← hz6, ← hz7] at Q
  have Q1 := Q
  have Q2 := H0
  refine lv_aload_n hx hb dL_law_900 rfl (lv_at hl 1 rfl) ?_
  refine lv_aload_n hx hb dL_law_901 rfl (lv_at hl 0 rfl) ?_
  refine lv_iload_n hx hb dL_law_902 rfl (lv_at hl 3 rfl) ?_
  refine lv_iconst (v := 1) hx hb dL_law_903 (by decide) ?_
  refine lv_iadd hx hb dL_law_904 ?_
  refine va_sld hx hb hX hbl hbA hS (vq1 hi hL) dL_law_905 ?_
  refine rVB (bl := [wRt Z C TR SN HI Y P R rt, wPd cyC P sg pw, wRd R P rd, wC cyI C u w, wHM cyI cyO HI BB h r v, wC cyI TR tu tw, wC cyI SN su sw, wWy cyI Y g, wM cyI A mm xx]) (WSb := [wRt Z C TR SN HI Y P R rt, wPd cyC P sg pw, wRd R P rd, wC cyI C u w, wHM cyI cyO HI BB h r v, wC cyI TR tu tw, wC cyI SN su sw, wWy cyI Y g]) (As := [.int (xs (nI (5 * i) + (1 : Int32)).toNatClampNeg)]) (rest := []) (r := z6) hx hb hml hown hts hl.1 (WS := (List.flatten [wRt Z C TR SN HI Y P R rt, wPd cyC P sg pw, wRd R P rd, wC cyI C u w, wHM cyI cyO HI BB h r v, wC cyI TR tu tw, wC cyI SN su sw, wWy cyI Y g])) (by rw [hz6]; exact kX6_bestPlace l D cyC cyI cyO Z C TR SN HI Y P R BB rt sg pw rd u w h r v tu tw su sw g (xs (nI (5 * i) + (1 : Int32)).toNatClampNeg) f_q) bV_X6_bestPlace wml_RL_123 ⟨rfl, rfl⟩ ⟨Nat.le_of_ble_eq_true rfl, Nat.le_of_ble_eq_true rfl, hNC, hNS⟩ [0, 1, 2, 3, 4, 5, 6, 7] rfl rfl hP hK 0 rfl rfl rfl rfl rfl (Nat.le_of_ble_eq_true rfl) dL_law_906 ?_
  refine lv_aload_n hx hb dL_law_909 rfl (lv_at hl 2 rfl) ?_
  refine lv_aload_n hx hb dL_law_910 rfl (lv_at hl 0 rfl) ?_
  refine lv_iload_n hx hb dL_law_911 rfl (lv_at hl 3 rfl) ?_
  refine lv_iconst (v := 1) hx hb dL_law_912 (by decide) ?_
  refine lv_iadd hx hb dL_law_913 ?_
  refine va_sld hx hb hX hbl hbA hS (vq1 hi hL) dL_law_914 ?_
  refine rVB (bl := [wRt Z C TR SN HI Y P R rt, wPd cyC P sg pw, wRd R P rd, wC cyI C u w, wHM cyI cyO HI BB h r v, wC cyI TR tu tw, wC cyI SN su sw, wWy cyI Y g, wM cyI A mm xx]) (WSb := [wM cyI A mm xx]) (As := [.int (xs (nI (5 * i) + (1 : Int32)).toNatClampNeg)]) (rest := [.int z6]) (r := z7) hx hb hml hown hts hl.1 (WS := (wM cyI A mm xx)) (by rw [hz7]; exact kX7_bestPlace l D cyC cyI cyO A mm xx (xs (nI (5 * i) + (1 : Int32)).toNatClampNeg) f_m3) bV_X7_bestPlace wml_RL_126 ⟨rfl, rfl⟩ ⟨Nat.le_of_ble_eq_true rfl, Nat.le_of_ble_eq_true rfl, hNC, hNS⟩ [8] (by simp only [List.flatten_cons, List.flatten_nil, List.append_nil]) rfl hP hK 0 rfl rfl rfl rfl rfl (Nat.le_of_ble_eq_true rfl) dL_law_915 ?_
  refine lv_icmp_eq (tgt := 962) hx hb dL_law_918 (by decide) (fun _ => ?_) (fun q => absurd Q1 q)
  exact kk (rt) (sg) (pw) (rd) (u) (w) (h) (r) (v) (tu) (tw) (su) (sw) (g) (mm) (xx) (kn) (n) (RA_mono Q2 (by omega)) H locs hP hD hS ls (lv_sub hl [0, 1, 2, 3] rfl)
set_option maxHeartbeats 4000000 in
set_option maxRecDepth 100000 in
theorem lc_27 (C0 : lw_At p s m meth c b L xs) (hK : KK D cyC cyI cyO s) (hNC : NC ≤ room_1.cells) (hNS : NS ≤ room_1.slots) (hi : 5 * i + 5 ≤ L) (hL : L ≤ 2560) (rt : Nat → Int32) (sg : Nat → Nat → Int32) (pw rd : Nat → Int32) (u : Nat → Nat → Int32) (w : Nat → Int32) (h : Nat → (Nat → Nat → Int32) × (Nat → Int32)) (r : Nat) (v : Nat → Int32) (tu : Nat → Nat → Int32) (tw : Nat → Int32) (su : Nat → Nat → Int32) (sw : Nat → Int32) (g : Nat → Nat → Int32) (mm : Nat → Nat → Int32) (xx : Nat → Int32) (kn n : Nat) (H0 : RA (128 * i) rt sg pw u w h r v su sw mm xx kn n) (kk : LK p l e s m below meth c b D cyC cyI cyO Z C TR SN HI Y P R A BB NC NS i) : ∀ (H : Heap) (locs : List Loc), va_P D vwCl (List.flatten [wRt Z C TR SN HI Y P R rt, wPd cyC P sg pw, wRd R P rd, wC cyI C u w, wHM cyI cyO HI BB h r v, wC cyI TR tu tw, wC cyI SN su sw, wWy cyI Y g, wM cyI A mm xx]) H → va_D (fun q : Nat => s.heap.size ≤ q) (List.flatten [wRt Z C TR SN HI Y P R rt, wPd cyC P sg pw, wRd R P rd, wC cyI C u w, wHM cyI cyO HI BB h r v, wC cyI TR tu tw, wC cyI SN su sw, wWy cyI Y g, wM cyI A mm xx]) → va_S (fun q : Nat => s.heap.size ≤ q) s.heap H locs → ∀ (ls : Array Slot), lv_has ls 8 [(0, .ref b), (1, .ref (Z 0)), (2, .ref (A 0)), (3, .int (nI (5 * i)))] → W p l e room_1 s m (#[Value.ref b] : Array Value) below meth c H locs NC NS (lw_Z below #[Value.ref b] s) (F0 m 923 ls []) := by
  intro H locs hP hD hS ls hl
  obtain ⟨hx, hb, hr, hml, hown, hts0, hX, hbl, hlocks, hgv⟩ := C0
  have hown : s.vm.findClass RL = some m.cls := hown
  have hts : ∀ w ∈ TB, w.before (#[Value.ref b] : Array Value) s = true := fun w h => hts0 w (List.mem_filter.mp h).1
  have hA : ∀ q : Nat, s.heap.size ≤ q → (fun q : Nat => s.heap.size ≤ q) q := fun _ h => h
  have hbA : ¬ (fun q : Nat => s.heap.size ≤ q) b := Nat.not_le.mpr hbl
  obtain ⟨f_r, f_q, f_ch, f_kn, f_k, f_m3, f_ln, f_l7, f_l6, f_7, f_n⟩ := RA_facts H0
  have f_N : 128 * i < 100000000 := by omega
  have f_N2 : 128 * i < 900000 := by omega
  have f_N3 : 128 * i < 800000 := by omega
  obtain ⟨z6, hz6⟩ : ∃ q, q = (pX6_undo rt sg pw rd u w h r v tu tw su sw g) := ⟨_, rfl⟩
  obtain ⟨z7, hz7⟩ : ∃ q, q = (pX7_undo mm xx kn) := ⟨_, rfl⟩
  have Q := q_undo (rt := rt) (sg := sg) (pw := pw) (rd := rd) (u := u) (w := w) (h := h) (r := r) (v := v) (tu := tu) (tw := tw) (su := su) (sw := sw) (g := g) H0
  rw [← hz6, ← hz7] at Q
  obtain ⟨Q1, kn', Q2⟩ := Q
  refine lv_aload_n hx hb dL_law_923 rfl (lv_at hl 1 rfl) ?_
  refine mVB (bl := [wRt Z C TR SN HI Y P R rt, wPd cyC P sg pw, wRd R P rd, wC cyI C u w, wHM cyI cyO HI BB h r v, wC cyI TR tu tw, wC cyI SN su sw, wWy cyI Y g, wM cyI A mm xx]) (bl' := [wRt Z C TR SN HI Y P R rt, wPd cyC P sg pw, wRd R P rd, wC cyI C z6.2.2.2.2.1 z6.2.2.2.2.2, wHM cyI cyO HI BB z6.2.1 z6.2.2.1 z6.2.2.2.1, wC cyI TR tu tw, wC cyI SN su sw, wWy cyI Y g, wM cyI A mm xx]) (WSb := [wRt Z C TR SN HI Y P R rt, wPd cyC P sg pw, wRd R P rd, wC cyI C u w, wHM cyI cyO HI BB h r v, wC cyI TR tu tw, wC cyI SN su sw, wWy cyI Y g]) (WSb' := [wRt Z C TR SN HI Y P R rt, wPd cyC P sg pw, wRd R P rd, wC cyI C z6.2.2.2.2.1 z6.2.2.2.2.2, wHM cyI cyO HI BB z6.2.1 z6.2.2.1 z6.2.2.2.1, wC cyI TR tu tw, wC cyI SN su sw, wWy cyI Y g]) (As := []) (rest := []) hx hb hml hown hts hl.1 (WS := (List.flatten [wRt Z C TR SN HI Y P R rt, wPd cyC P sg pw, wRd R P rd, wC cyI C u w, wHM cyI cyO HI BB h r v, wC cyI TR tu tw, wC cyI SN su sw, wWy cyI Y g])) (WS' := (List.flatten [wRt Z C TR SN HI Y P R rt, wPd cyC P sg pw, wRd R P rd, wC cyI C z6.2.2.2.2.1 z6.2.2.2.2.2, wHM cyI cyO HI BB z6.2.1 z6.2.2.1 z6.2.2.2.1, wC cyI TR tu tw, wC cyI SN su sw, wWy cyI Y g])) (ro := (some (.int z6.1))) (by rw [hz6]; exact kX6_undo l D cyC cyI cyO Z C TR SN HI Y P R BB rt sg pw rd u w h r v tu tw su sw g f_r) bV_X6_undo wml_RL_127 ⟨rfl, rfl⟩ ⟨Nat.le_of_ble_eq_true rfl, Nat.le_of_ble_eq_true rfl, hNC, hNS⟩ [0, 1, 2, 3, 4, 5, 6, 7] rfl rfl rfl rfl rfl rfl rfl hP hD hS hA hK 0 rfl rfl rfl rfl rfl (Nat.le_of_ble_eq_true rfl) dL_law_924 (fun H locs hP hD hS => ?_)
  refine lv_aload_n hx hb dL_law_927 rfl (lv_at hl 2 rfl) ?_
  refine mVB (bl := [wRt Z C TR SN HI Y P R rt, wPd cyC P sg pw, wRd R P rd, wC cyI C z6.2.2.2.2.1 z6.2.2.2.2.2, wHM cyI cyO HI BB z6.2.1 z6.2.2.1 z6.2.2.2.1, wC cyI TR tu tw, wC cyI SN su sw, wWy cyI Y g, wM cyI A mm xx]) (bl' := [wRt Z C TR SN HI Y P R rt, wPd cyC P sg pw, wRd R P rd, wC cyI C z6.2.2.2.2.1 z6.2.2.2.2.2, wHM cyI cyO HI BB z6.2.1 z6.2.2.1 z6.2.2.2.1, wC cyI TR tu tw, wC cyI SN su sw, wWy cyI Y g, wM cyI A z7.2.1 z7.2.2]) (WSb := [wM cyI A mm xx]) (WSb' := [wM cyI A z7.2.1 z7.2.2]) (As := []) (rest := [.int z6.1]) hx hb hml hown hts hl.1 (WS := (wM cyI A mm xx)) (WS' := (wM cyI A z7.2.1 z7.2.2)) (ro := (some (.int z7.1))) (by rw [hz7]; exact kX7_undoK l D cyC cyI cyO A mm xx kn f_kn f_k) bV_X7_undo wml_RL_130 ⟨rfl, rfl⟩ ⟨Nat.le_of_ble_eq_true rfl, Nat.le_of_ble_eq_true rfl, hNC, hNS⟩ [8] (by simp only [List.flatten_cons, List.flatten_nil, List.append_nil]) (by simp only [List.flatten_cons, List.flatten_nil, List.append_nil]) rfl rfl rfl rfl rfl hP hD hS hA hK 0 rfl rfl rfl rfl rfl (Nat.le_of_ble_eq_true rfl) dL_law_928 (fun H locs hP hD hS => ?_)
  refine lv_icmp_eq (tgt := 962) hx hb dL_law_931 (by decide) (fun _ => ?_) (fun q => absurd Q1 q)
  exact kk (rt) (sg) (pw) (rd) (z6.2.2.2.2.1) (z6.2.2.2.2.2) (z6.2.1) (z6.2.2.1) (z6.2.2.2.1) (tu) (tw) (su) (sw) (g) (z7.2.1) (z7.2.2) (kn') (n) (RA_mono Q2 (by omega)) H locs hP hD hS ls (lv_sub hl [0, 1, 2, 3] rfl)
set_option maxHeartbeats 4000000 in
set_option maxRecDepth 100000 in
theorem lc_28 (C0 : lw_At p s m meth c b L xs) (hK : KK D cyC cyI cyO s) (hNC : NC ≤ room_1.cells) (hNS : NS ≤ room_1.slots) (hi : 5 * i + 5 ≤ L) (hL : L ≤ 2560) (rt : Nat → Int32) (sg : Nat → Nat → Int32) (pw rd : Nat → Int32) (u : Nat → Nat → Int32) (w : Nat → Int32) (h : Nat → (Nat → Nat → Int32) × (Nat → Int32)) (r : Nat) (v : Nat → Int32) (tu : Nat → Nat → Int32) (tw : Nat → Int32) (su : Nat → Nat → Int32) (sw : Nat → Int32) (g : Nat → Nat → Int32) (mm : Nat → Nat → Int32) (xx : Nat → Int32) (kn n : Nat) (H0 : RA (128 * i) rt sg pw u w h r v su sw mm xx kn n) (kk : LK p l e s m below meth c b D cyC cyI cyO Z C TR SN HI Y P R A BB NC NS i) : ∀ (H : Heap) (locs : List Loc), va_P D vwCl (List.flatten [wRt Z C TR SN HI Y P R rt, wPd cyC P sg pw, wRd R P rd, wC cyI C u w, wHM cyI cyO HI BB h r v, wC cyI TR tu tw, wC cyI SN su sw, wWy cyI Y g, wM cyI A mm xx]) H → va_D (fun q : Nat => s.heap.size ≤ q) (List.flatten [wRt Z C TR SN HI Y P R rt, wPd cyC P sg pw, wRd R P rd, wC cyI C u w, wHM cyI cyO HI BB h r v, wC cyI TR tu tw, wC cyI SN su sw, wWy cyI Y g, wM cyI A mm xx]) → va_S (fun q : Nat => s.heap.size ≤ q) s.heap H locs → ∀ (ls : Array Slot), lv_has ls 8 [(0, .ref b), (1, .ref (Z 0)), (2, .ref (A 0)), (3, .int (nI (5 * i)))] → W p l e room_1 s m (#[Value.ref b] : Array Value) below meth c H locs NC NS (lw_Z below #[Value.ref b] s) (F0 m 936 ls []) := by
  intro H locs hP hD hS ls hl
  obtain ⟨hx, hb, hr, hml, hown, hts0, hX, hbl, hlocks, hgv⟩ := C0
  have hown : s.vm.findClass RL = some m.cls := hown
  have hts : ∀ w ∈ TB, w.before (#[Value.ref b] : Array Value) s = true := fun w h => hts0 w (List.mem_filter.mp h).1
  have hA : ∀ q : Nat, s.heap.size ≤ q → (fun q : Nat => s.heap.size ≤ q) q := fun _ h => h
  have hbA : ¬ (fun q : Nat => s.heap.size ≤ q) b := Nat.not_le.mpr hbl
  obtain ⟨f_r, f_q, f_ch, f_kn, f_k, f_m3, f_ln, f_l7, f_l6, f_7, f_n⟩ := RA_facts H0
  have f_N : 128 * i < 100000000 := by omega
  have f_N2 : 128 * i < 900000 := by omega
  have f_N3 : 128 * i < 800000 := by omega
  obtain ⟨z6, hz6⟩ : ∃ q, q = (pX6_save rt sg pw rd u w h r v tu tw su sw g) := ⟨_, rfl⟩
  obtain ⟨z7, hz7⟩ : ∃ q, q = (pX7_save mm xx) := ⟨_, rfl⟩
  have Q := q_save (rt := rt) (sg := sg) (pw := pw) (rd := rd) (u := u) (w := w) (h := h) (r := r) (v := v) (tu := tu) (tw := tw) (su := su) (sw := sw) (g := g) H0
  rw [← hz6, ← hz7] at Q
  obtain ⟨Q1, Q2⟩ := Q
  refine lv_aload_n hx hb dL_law_936 rfl (lv_at hl 1 rfl) ?_
  refine mVB (bl := [wRt Z C TR SN HI Y P R rt, wPd cyC P sg pw, wRd R P rd, wC cyI C u w, wHM cyI cyO HI BB h r v, wC cyI TR tu tw, wC cyI SN su sw, wWy cyI Y g, wM cyI A mm xx]) (bl' := [wRt Z C TR SN HI Y P R z6.2.1, wPd cyC P sg pw, wRd R P rd, wC cyI C u w, wHM cyI cyO HI BB h r v, wC cyI TR tu tw, wC cyI SN z6.2.2.1 z6.2.2.2, wWy cyI Y g, wM cyI A mm xx]) (WSb := [wRt Z C TR SN HI Y P R rt, wPd cyC P sg pw, wRd R P rd, wC cyI C u w, wHM cyI cyO HI BB h r v, wC cyI TR tu tw, wC cyI SN su sw, wWy cyI Y g]) (WSb' := [wRt Z C TR SN HI Y P R z6.2.1, wPd cyC P sg pw, wRd R P rd, wC cyI C u w, wHM cyI cyO HI BB h r v, wC cyI TR tu tw, wC cyI SN z6.2.2.1 z6.2.2.2, wWy cyI Y g]) (As := []) (rest := []) hx hb hml hown hts hl.1 (WS := (List.flatten [wRt Z C TR SN HI Y P R rt, wPd cyC P sg pw, wRd R P rd, wC cyI C u w, wHM cyI cyO HI BB h r v, wC cyI TR tu tw, wC cyI SN su sw, wWy cyI Y g])) (WS' := (List.flatten [wRt Z C TR SN HI Y P R z6.2.1, wPd cyC P sg pw, wRd R P rd, wC cyI C u w, wHM cyI cyO HI BB h r v, wC cyI TR tu tw, wC cyI SN z6.2.2.1 z6.2.2.2, wWy cyI Y g])) (ro := (some (.int z6.1))) (by rw [hz6]; exact kX6_save l D cyC cyI cyO Z C TR SN HI Y P R BB rt sg pw rd u w h r v tu tw su sw g ) bV_X6_save wml_RL_131 ⟨rfl, rfl⟩ ⟨Nat.le_of_ble_eq_true rfl, Nat.le_of_ble_eq_true rfl, hNC, hNS⟩ [0, 1, 2, 3, 4, 5, 6, 7] rfl rfl rfl rfl rfl rfl rfl hP hD hS hA hK 0 rfl rfl rfl rfl rfl (Nat.le_of_ble_eq_true rfl) dL_law_937 (fun H locs hP hD hS => ?_)
  refine lv_aload_n hx hb dL_law_940 rfl (lv_at hl 2 rfl) ?_
  refine mVB (bl := [wRt Z C TR SN HI Y P R z6.2.1, wPd cyC P sg pw, wRd R P rd, wC cyI C u w, wHM cyI cyO HI BB h r v, wC cyI TR tu tw, wC cyI SN z6.2.2.1 z6.2.2.2, wWy cyI Y g, wM cyI A mm xx]) (bl' := [wRt Z C TR SN HI Y P R z6.2.1, wPd cyC P sg pw, wRd R P rd, wC cyI C u w, wHM cyI cyO HI BB h r v, wC cyI TR tu tw, wC cyI SN z6.2.2.1 z6.2.2.2, wWy cyI Y g, wM cyI A z7.2.1 z7.2.2]) (WSb := [wM cyI A mm xx]) (WSb' := [wM cyI A z7.2.1 z7.2.2]) (As := []) (rest := [.int z6.1]) hx hb hml hown hts hl.1 (WS := (wM cyI A mm xx)) (WS' := (wM cyI A z7.2.1 z7.2.2)) (ro := (some (.int z7.1))) (by rw [hz7]; exact kX7_save l D cyC cyI cyO A mm xx ) bV_X7_save wml_RL_134 ⟨rfl, rfl⟩ ⟨Nat.le_of_ble_eq_true rfl, Nat.le_of_ble_eq_true rfl, hNC, hNS⟩ [8] (by simp only [List.flatten_cons, List.flatten_nil, List.append_nil]) (by simp only [List.flatten_cons, List.flatten_nil, List.append_nil]) rfl rfl rfl rfl rfl hP hD hS hA hK 0 rfl rfl rfl rfl rfl (Nat.le_of_ble_eq_true rfl) dL_law_941 (fun H locs hP hD hS => ?_)
  refine lv_icmp_eq (tgt := 962) hx hb dL_law_944 (by decide) (fun _ => ?_) (fun q => absurd Q1 q)
  exact kk (z6.2.1) (sg) (pw) (rd) (u) (w) (h) (r) (v) (tu) (tw) (z6.2.2.1) (z6.2.2.2) (g) (z7.2.1) (z7.2.2) (kn) (n) (RA_mono Q2 (by omega)) H locs hP hD hS ls (lv_sub hl [0, 1, 2, 3] rfl)
set_option maxHeartbeats 4000000 in
set_option maxRecDepth 100000 in
theorem lc_29 (C0 : lw_At p s m meth c b L xs) (hK : KK D cyC cyI cyO s) (hNC : NC ≤ room_1.cells) (hNS : NS ≤ room_1.slots) (hi : 5 * i + 5 ≤ L) (hL : L ≤ 2560) (rt : Nat → Int32) (sg : Nat → Nat → Int32) (pw rd : Nat → Int32) (u : Nat → Nat → Int32) (w : Nat → Int32) (h : Nat → (Nat → Nat → Int32) × (Nat → Int32)) (r : Nat) (v : Nat → Int32) (tu : Nat → Nat → Int32) (tw : Nat → Int32) (su : Nat → Nat → Int32) (sw : Nat → Int32) (g : Nat → Nat → Int32) (mm : Nat → Nat → Int32) (xx : Nat → Int32) (kn n : Nat) (H0 : RA (128 * i) rt sg pw u w h r v su sw mm xx kn n) (kk : LK p l e s m below meth c b D cyC cyI cyO Z C TR SN HI Y P R A BB NC NS i) : ∀ (H : Heap) (locs : List Loc), va_P D vwCl (List.flatten [wRt Z C TR SN HI Y P R rt, wPd cyC P sg pw, wRd R P rd, wC cyI C u w, wHM cyI cyO HI BB h r v, wC cyI TR tu tw, wC cyI SN su sw, wWy cyI Y g, wM cyI A mm xx]) H → va_D (fun q : Nat => s.heap.size ≤ q) (List.flatten [wRt Z C TR SN HI Y P R rt, wPd cyC P sg pw, wRd R P rd, wC cyI C u w, wHM cyI cyO HI BB h r v, wC cyI TR tu tw, wC cyI SN su sw, wWy cyI Y g, wM cyI A mm xx]) → va_S (fun q : Nat => s.heap.size ≤ q) s.heap H locs → ∀ (ls : Array Slot), lv_has ls 8 [(0, .ref b), (1, .ref (Z 0)), (2, .ref (A 0)), (3, .int (nI (5 * i)))] → W p l e room_1 s m (#[Value.ref b] : Array Value) below meth c H locs NC NS (lw_Z below #[Value.ref b] s) (F0 m 949 ls []) := by
  intro H locs hP hD hS ls hl
  obtain ⟨hx, hb, hr, hml, hown, hts0, hX, hbl, hlocks, hgv⟩ := C0
  have hown : s.vm.findClass RL = some m.cls := hown
  have hts : ∀ w ∈ TB, w.before (#[Value.ref b] : Array Value) s = true := fun w h => hts0 w (List.mem_filter.mp h).1
  have hA : ∀ q : Nat, s.heap.size ≤ q → (fun q : Nat => s.heap.size ≤ q) q := fun _ h => h
  have hbA : ¬ (fun q : Nat => s.heap.size ≤ q) b := Nat.not_le.mpr hbl
  obtain ⟨f_r, f_q, f_ch, f_kn, f_k, f_m3, f_ln, f_l7, f_l6, f_7, f_n⟩ := RA_facts H0
  have f_N : 128 * i < 100000000 := by omega
  have f_N2 : 128 * i < 900000 := by omega
  have f_N3 : 128 * i < 800000 := by omega
  obtain ⟨z6, hz6⟩ : ∃ q, q = (pX6_restore rt sg pw rd u w h r v tu tw su sw g) := ⟨_, rfl⟩
  obtain ⟨z7, hz7⟩ : ∃ q, q = (pX7_restore mm xx kn) := ⟨_, rfl⟩
  have Q := q_restore (rt := rt) (sg := sg) (pw := pw) (rd := rd) (u := u) (w := w) (h := h) (r := r) (v := v) (tu := tu) (tw := tw) (su := su) (sw := sw) (g := g) H0
  rw [← hz6, ← hz7] at Q
  obtain ⟨Q1, kn', Q2⟩ := Q
  refine lv_aload_n hx hb dL_law_949 rfl (lv_at hl 1 rfl) ?_
  refine mVB (bl := [wRt Z C TR SN HI Y P R rt, wPd cyC P sg pw, wRd R P rd, wC cyI C u w, wHM cyI cyO HI BB h r v, wC cyI TR tu tw, wC cyI SN su sw, wWy cyI Y g, wM cyI A mm xx]) (bl' := [wRt Z C TR SN HI Y P R rt, wPd cyC P sg pw, wRd R P rd, wC cyI C z6.2.2.2.2.1 z6.2.2.2.2.2, wHM cyI cyO HI BB z6.2.1 z6.2.2.1 z6.2.2.2.1, wC cyI TR tu tw, wC cyI SN su sw, wWy cyI Y g, wM cyI A mm xx]) (WSb := [wRt Z C TR SN HI Y P R rt, wPd cyC P sg pw, wRd R P rd, wC cyI C u w, wHM cyI cyO HI BB h r v, wC cyI TR tu tw, wC cyI SN su sw, wWy cyI Y g]) (WSb' := [wRt Z C TR SN HI Y P R rt, wPd cyC P sg pw, wRd R P rd, wC cyI C z6.2.2.2.2.1 z6.2.2.2.2.2, wHM cyI cyO HI BB z6.2.1 z6.2.2.1 z6.2.2.2.1, wC cyI TR tu tw, wC cyI SN su sw, wWy cyI Y g]) (As := []) (rest := []) hx hb hml hown hts hl.1 (WS := (List.flatten [wRt Z C TR SN HI Y P R rt, wPd cyC P sg pw, wRd R P rd, wC cyI C u w, wHM cyI cyO HI BB h r v, wC cyI TR tu tw, wC cyI SN su sw, wWy cyI Y g])) (WS' := (List.flatten [wRt Z C TR SN HI Y P R rt, wPd cyC P sg pw, wRd R P rd, wC cyI C z6.2.2.2.2.1 z6.2.2.2.2.2, wHM cyI cyO HI BB z6.2.1 z6.2.2.1 z6.2.2.2.1, wC cyI TR tu tw, wC cyI SN su sw, wWy cyI Y g])) (ro := (some (.int z6.1))) (by rw [hz6]; exact kX6_restore l D cyC cyI cyO Z C TR SN HI Y P R BB rt sg pw rd u w h r v tu tw su sw g f_r) bV_X6_restore wml_RL_135 ⟨rfl, rfl⟩ ⟨Nat.le_of_ble_eq_true rfl, Nat.le_of_ble_eq_true rfl, hNC, hNS⟩ [0, 1, 2, 3, 4, 5, 6, 7] rfl rfl rfl rfl rfl rfl rfl hP hD hS hA hK 0 rfl rfl rfl rfl rfl (Nat.le_of_ble_eq_true rfl) dL_law_950 (fun H locs hP hD hS => ?_)
  refine lv_aload_n hx hb dL_law_953 rfl (lv_at hl 2 rfl) ?_
  refine mVB (bl := [wRt Z C TR SN HI Y P R rt, wPd cyC P sg pw, wRd R P rd, wC cyI C z6.2.2.2.2.1 z6.2.2.2.2.2, wHM cyI cyO HI BB z6.2.1 z6.2.2.1 z6.2.2.2.1, wC cyI TR tu tw, wC cyI SN su sw, wWy cyI Y g, wM cyI A mm xx]) (bl' := [wRt Z C TR SN HI Y P R rt, wPd cyC P sg pw, wRd R P rd, wC cyI C z6.2.2.2.2.1 z6.2.2.2.2.2, wHM cyI cyO HI BB z6.2.1 z6.2.2.1 z6.2.2.2.1, wC cyI TR tu tw, wC cyI SN su sw, wWy cyI Y g, wM cyI A z7.2.1 z7.2.2]) (WSb := [wM cyI A mm xx]) (WSb' := [wM cyI A z7.2.1 z7.2.2]) (As := []) (rest := [.int z6.1]) hx hb hml hown hts hl.1 (WS := (wM cyI A mm xx)) (WS' := (wM cyI A z7.2.1 z7.2.2)) (ro := (some (.int z7.1))) (by rw [hz7]; exact kX7_restore l D cyC cyI cyO A mm xx kn f_kn f_k) bV_X7_restore wml_RL_138 ⟨rfl, rfl⟩ ⟨Nat.le_of_ble_eq_true rfl, Nat.le_of_ble_eq_true rfl, hNC, hNS⟩ [8] (by simp only [List.flatten_cons, List.flatten_nil, List.append_nil]) (by simp only [List.flatten_cons, List.flatten_nil, List.append_nil]) rfl rfl rfl rfl rfl hP hD hS hA hK 0 rfl rfl rfl rfl rfl (Nat.le_of_ble_eq_true rfl) dL_law_954 (fun H locs hP hD hS => ?_)
  refine lv_icmp_eq (tgt := 962) hx hb dL_law_957 (by decide) (fun _ => ?_) (fun q => absurd Q1 q)
  exact kk (rt) (sg) (pw) (rd) (z6.2.2.2.2.1) (z6.2.2.2.2.2) (z6.2.1) (z6.2.2.1) (z6.2.2.2.1) (tu) (tw) (su) (sw) (g) (z7.2.1) (z7.2.2) (kn') (n) (RA_mono Q2 (by omega)) H locs hP hD hS ls (lv_sub hl [0, 1, 2, 3] rfl)
end LAWC
