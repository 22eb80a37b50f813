/-! ===== the law's turn ===== -/
def RL_ (k0 : Nat) (was : Int64) (kn : Nat) (u : Nat → Nat → Int32) (w : Nat → Int32) (h : Nat → (Nat → Nat → Int32) × (Nat → Int32)) (r : Nat) : Prop := (kn = k0 ∧ lookF u w = was) ∨ (kn = (if k0 = 4 then 4 else k0 + 1) ∧ lookF (h r).1 (h r).2 = was)
def LK (p : Program) (l : Launch) (e : Env) (s : State) (m : MethodId) (below : List Frame) (meth : Method) (c : Code) (b : Nat) (D : va_G) (cyC cyI cyO : ClassId) (Z C TR SN HI Y P R : Nat → Nat) (BB : Nat → Nat → Nat) (NC NS : Nat) (B n pc : Nat) : Prop := ∀ (rt : Nat → Int32) (sg : Nat → Nat → Int32) (pw : Nat → Int32) (rd : Nat → Int32) (u : Nat → Nat → Int32) (w : Nat → Int32) (h : Nat → (Nat → Nat → Int32) × (Nat → Int32)) (r : Nat) (v : Nat → Int32) (tu : Nat → Nat → Int32) (tw : Nat → Int32) (su : Nat → Nat → Int32) (sw : Nat → Int32) (g : Nat → Nat → Int32) (kn : Nat), IV B rt sg pw u w h r v su sw kn → ∀ (H : Heap) (locs : List Loc), va_P D vwCl (List.flatten (WB cyC cyI cyO Z C TR SN HI Y P R BB rt sg pw rd u w h r v tu tw su sw g)) H → va_D (fun q : Nat => s.heap.size ≤ q) (List.flatten (WB cyC cyI cyO Z C TR SN HI Y P R BB rt sg pw rd u w h r v tu tw su sw g)) → va_S (fun q : Nat => s.heap.size ≤ q) s.heap H locs → ∀ (ls : Array Slot), lv_has ls 13 [(0, .ref b), (1, .ref (Z 0)), (2, .int 1), (3, .long (lookF su sw)), (5, .int (nI n))] → W p l e room_1 s m #[Value.ref b] below meth c H locs NC NS (lw_Z below #[Value.ref b] s) (F0 m pc ls [])
def LM (p : Program) (l : Launch) (e : Env) (s : State) (m : MethodId) (below : List Frame) (meth : Method) (c : Code) (b : Nat) (D : va_G) (cyC cyI cyO : ClassId) (Z C TR SN HI Y P R : Nat → Nat) (BB : Nat → Nat → Nat) (NC NS : Nat) (B n pc : Nat) : Prop := ∀ (rt : Nat → Int32) (sg : Nat → Nat → Int32) (pw : Nat → Int32) (rd : Nat → Int32) (u : Nat → Nat → Int32) (w : Nat → Int32) (h : Nat → (Nat → Nat → Int32) × (Nat → Int32)) (r : Nat) (v : Nat → Int32) (tu : Nat → Nat → Int32) (tw : Nat → Int32) (su : Nat → Nat → Int32) (sw : Nat → Int32) (g : Nat → Nat → Int32) (kn k0 : Nat) (y : Int32) (was : Int64), IV B rt sg pw u w h r v su sw kn → k0 ≤ 4 → RL_ k0 was kn u w h r → ∀ (H : Heap) (locs : List Loc), va_P D vwCl (List.flatten (WB cyC cyI cyO Z C TR SN HI Y P R BB rt sg pw rd u w h r v tu tw su sw g)) H → va_D (fun q : Nat => s.heap.size ≤ q) (List.flatten (WB cyC cyI cyO Z C TR SN HI Y P R BB rt sg pw rd u w h r v tu tw su sw g)) → va_S (fun q : Nat => s.heap.size ≤ q) s.heap H locs → ∀ (ls : Array Slot), lv_has ls 13 [(0, .ref b), (1, .ref (Z 0)), (2, .int 1), (3, .long (lookF su sw)), (5, .int (nI n)), (7, .int y), (8, .long was), (10, .int (nI k0))] → W p l e room_1 s m #[Value.ref b] below meth c H locs NC NS (lw_Z below #[Value.ref b] s) (F0 m pc ls [])
def LN (p : Program) (l : Launch) (e : Env) (s : State) (m : MethodId) (below : List Frame) (meth : Method) (c : Code) (b : Nat) (D : va_G) (cyC cyI cyO : ClassId) (Z C TR SN HI Y P R : Nat → Nat) (BB : Nat → Nat → Nat) (NC NS : Nat) (B n pc : Nat) : Prop := ∀ (rt : Nat → Int32) (sg : Nat → Nat → Int32) (pw : Nat → Int32) (rd : Nat → Int32) (u : Nat → Nat → Int32) (w : Nat → Int32) (h : Nat → (Nat → Nat → Int32) × (Nat → Int32)) (r : Nat) (v : Nat → Int32) (tu : Nat → Nat → Int32) (tw : Nat → Int32) (su : Nat → Nat → Int32) (sw : Nat → Int32) (g : Nat → Nat → Int32) (kn k0 : Nat) (y : Int32) (was : Int64), IV B rt sg pw u w h r v su sw kn → k0 ≤ 4 → RL_ k0 was kn u w h r → ∀ (H : Heap) (locs : List Loc), va_P D vwCl (List.flatten (WB cyC cyI cyO Z C TR SN HI Y P R BB rt sg pw rd u w h r v tu tw su sw g)) H → va_D (fun q : Nat => s.heap.size ≤ q) (List.flatten (WB cyC cyI cyO Z C TR SN HI Y P R BB rt sg pw rd u w h r v tu tw su sw g)) → va_S (fun q : Nat => s.heap.size ≤ q) s.heap H locs → ∀ (ls : Array Slot), lv_has ls 13 [(0, .ref b), (1, .ref (Z 0)), (2, .int 1), (3, .long (lookF su sw)), (5, .int (nI n)), (7, .int y), (8, .long was), (10, .int (nI k0)), (11, .int (nI kn))] → W p l e room_1 s m #[Value.ref b] below meth c H locs NC NS (lw_Z below #[Value.ref b] s) (F0 m pc ls [])
section LAWL
variable {p : Program} {l : Launch} {e : Env} {s : State} {m : MethodId} {below : List Frame} {meth : Method} {c : Code} {b L : Nat} {xs : Nat → Int32} {D : va_G} {cyC cyI cyO : ClassId} {Z C TR SN HI Y P R : Nat → Nat} {BB : Nat → Nat → Nat} {NC NS : Nat}
set_option maxHeartbeats 4000000 in
set_option maxRecDepth 100000 in
theorem lk_375 (C0 : lw_At p s m meth c b L xs) (hK : KK D cyC cyI cyO s) (hNC : NC ≤ room_1.cells) (hNS : NS ≤ room_1.slots) (hL : L ≤ 260) {B n : Nat} (hn : n < 54) (hB : B < 600000) (kk : LK p l e s m below meth c b D cyC cyI cyO Z C TR SN HI Y P R BB NC NS B (n + 1) 62) : LK p l e s m below meth c b D cyC cyI cyO Z C TR SN HI Y P R BB NC NS B n 375 := by
  have C1 := C0
  obtain ⟨hx, hb, hr, hml, hown, hts0, hX, hbl, hlocks, hgv⟩ := C1
  have hown : s.vm.findClass RL = some m.cls := hown
  have hts : ∀ w ∈ TB, w.before (#[Value.ref b] : Array Value) s = true := fun w h => hts0 w (List.mem_filter.mp h).1
  have hA : ∀ q : Nat, s.heap.size ≤ q → (fun q : Nat => s.heap.size ≤ q) q := fun _ h => h
  have hbA : ¬ (fun q : Nat => s.heap.size ≤ q) b := Nat.not_le.mpr hbl
  intro rt sg pw rd u w h r v tu tw su sw g kn H0 H locs hP hD hS ls hl
  have H00 := H0
  obtain ⟨i1, i2, i3, i4, ev, hr4, i5, i6, i7⟩ := H00
  have hq := CI_12 i1
  have hq2 := CI_12 i2
  refine lv_iinc (v := (nI (n + 1))) (lv' := [(5, .int (nI (n + 1))), (0, .ref b), (1, .ref (Z 0)), (2, .int 1), (3, .long (lookF su sw))]) hx hb dL_law_375 hl (k := 4) rfl (nI_succ n).symm (by decide) rfl (fun ls hl => ?_)
  refine lv_goto (tgt := 62) hx hb dL_law_378 (by decide) ?_
  exact kk rt sg pw rd u w h r v tu tw su sw g kn H0 H locs hP hD hS ls (lv_sub hl [1, 2, 3, 4, 0] rfl)
set_option maxHeartbeats 4000000 in
set_option maxRecDepth 100000 in
theorem lk_326 (C0 : lw_At p s m meth c b L xs) (hK : KK D cyC cyI cyO s) (hNC : NC ≤ room_1.cells) (hNS : NS ≤ room_1.slots) (hL : L ≤ 260) {B n : Nat} (hn : n < 54) (hB : B < 600000) (kk : LK p l e s m below meth c b D cyC cyI cyO Z C TR SN HI Y P R BB NC NS B n 375) : LK p l e s m below meth c b D cyC cyI cyO Z C TR SN HI Y P R BB NC NS B n 326 := by
  have C1 := C0
  obtain ⟨hx, hb, hr, hml, hown, hts0, hX, hbl, hlocks, hgv⟩ := C1
  have hown : s.vm.findClass RL = some m.cls := hown
  have hts : ∀ w ∈ TB, w.before (#[Value.ref b] : Array Value) s = true := fun w h => hts0 w (List.mem_filter.mp h).1
  have hA : ∀ q : Nat, s.heap.size ≤ q → (fun q : Nat => s.heap.size ≤ q) q := fun _ h => h
  have hbA : ¬ (fun q : Nat => s.heap.size ≤ q) b := Nat.not_le.mpr hbl
  intro rt sg pw rd u w h r v tu tw su sw g kn H0 H locs hP hD hS ls hl
  have H00 := H0
  obtain ⟨i1, i2, i3, i4, ev, hr4, i5, i6, i7⟩ := H00
  have hq := CI_12 i1
  have hq2 := CI_12 i2
  refine lv_iload_n hx hb dL_law_326 rfl (lv_at hl 2 rfl) ?_
  refine lv_if_eq (tgt := 375) hx hb dL_law_327 (by decide) (fun q => absurd q (by decide)) (fun _ => ?_)
  refine lv_iload hx hb dL_law_330 (lv_at hl 4 rfl) ?_
  refine lv_bipush (v := 11) hx hb dL_law_332 (by decide) ?_
  refine lv_irem hx hb dL_law_334 (by decide) ?_
  rw [show nI n - nI n / (11 : Int32) * (11 : Int32) = nI (n % 11) from pk_rem (by omega) (by decide) (by decide)]
  refine lv_bipush (v := 10) hx hb dL_law_335 (by decide) ?_
  refine lv_icmp_ne (tgt := 375) hx hb dL_law_337 (by decide) (fun _ => kk rt sg pw rd u w h r v tu tw su sw g kn H0 H locs hP hD hS ls hl) (fun _ => ?_)
  refine lv_aload_n hx hb dL_law_340 rfl (lv_at hl 1 rfl) ?_
  refine lv_bipush (v := 17) hx hb dL_law_341 (by decide) ?_
  refine rVB (bl := WB cyC cyI cyO Z C TR SN HI Y P R BB rt sg pw rd u w h r v tu tw su sw g) (WSb := WB cyC cyI cyO Z C TR SN HI Y P R BB rt sg pw rd u w h r v tu tw su sw g) (As := [.int 17]) (rest := []) hx hb hml hown hts hl.1 (by have k := k_fC17 l D cyC cyI cyO Z C TR SN HI Y P R BB rt sg pw rd u w h r v tu tw su sw g hq; rw [ev] at k; exact k) bV_X6_count wml_RL_13 ⟨rfl, rfl⟩ ⟨Nat.le_of_ble_eq_true rfl, Nat.le_of_ble_eq_true rfl, hNC, hNS⟩ [0, 1, 2, 3, 4, 5, 6, 7] rfl rfl hP hK 0 rfl rfl rfl rfl rfl (Nat.le_of_ble_eq_true rfl) dL_law_343 ?_
  refine lv_istore (lv' := [(12, .int (nI kn)), (0, .ref b), (1, .ref (Z 0)), (2, .int 1), (3, .long (lookF su sw)), (5, .int (nI n))]) hx hb dL_law_346 hl (by decide) rfl (fun ls hl => ?_)
  refine lv_aload_n hx hb dL_law_348 rfl (lv_at hl 2 rfl) ?_
  cases kn with
  | zero =>
    refine mVB (bl := WB cyC cyI cyO Z C TR SN HI Y P R BB rt sg pw rd u w h r v tu tw su sw g) (bl' := WB cyC cyI cyO Z C TR SN HI Y P R BB rt sg pw rd u w h r v tu tw su sw g) (WSb := WB cyC cyI cyO Z C TR SN HI Y P R BB rt sg pw rd u w h r v tu tw su sw g) (WSb' := WB cyC cyI cyO Z C TR SN HI Y P R BB rt sg pw rd u w h r v tu tw su sw g) (As := []) (rest := []) hx hb hml hown hts hl.1 (WS := (List.flatten (WB cyC cyI cyO Z C TR SN HI Y P R BB rt sg pw rd u w h r v tu tw su sw g))) (WS' := (List.flatten (WB cyC cyI cyO Z C TR SN HI Y P R BB rt sg pw rd u w h r v tu tw su sw g))) (ro := (some (.int (-2)))) (by have k := kX6_undo l D cyC cyI cyO Z C TR SN HI Y P R BB rt sg pw rd u w h r v tu tw su sw g hr4; rw [undo_0 ev] at k; exact k) bV_X6_undo wml_RL_137 ⟨rfl, rfl⟩ ⟨Nat.le_of_ble_eq_true rfl, Nat.le_of_ble_eq_true rfl, hNC, hNS⟩ [0, 1, 2, 3, 4, 5, 6, 7] rfl rfl rfl rfl rfl rfl rfl hP hD hS hA hK 0 rfl rfl rfl rfl rfl (Nat.le_of_ble_eq_true rfl) dL_law_349 (fun H locs hP hD hS => ?_)
    refine lv_iload hx hb dL_law_352 (lv_at hl 0 rfl) ?_
    refine lv_if_ne (tgt := 362) hx hb dL_law_354 (by decide) (fun q => absurd rfl q) (fun _ => ?_)
    refine lv_bipush (v := -2) hx hb dL_law_357 (by decide) ?_
    refine lv_goto (tgt := 366) hx hb dL_law_359 (by decide) ?_
    refine lv_icmp_ne (tgt := 373) hx hb dL_law_366 (by decide) (fun q => absurd rfl q) (fun _ => ?_)
    refine lv_iconst (v := 1) hx hb dL_law_369 (by decide) ?_
    refine lv_goto (tgt := 374) hx hb dL_law_370 (by decide) ?_
    refine lv_istore_n (lv' := [(2, .int 1), (12, .int (nI 0)), (0, .ref b), (1, .ref (Z 0)), (3, .long (lookF su sw)), (5, .int (nI n))]) hx hb dL_law_374 rfl hl (by decide) rfl (fun ls hl => ?_)
    exact kk rt sg pw rd u w h r v tu tw su sw g 0 H0 H locs hP hD hS ls (lv_sub hl [2, 3, 0, 4, 5] rfl)
  | succ kn =>
    obtain ⟨U1, U2⟩ := IV_undo H0
    refine mVB (bl := WB cyC cyI cyO Z C TR SN HI Y P R BB rt sg pw rd u w h r v tu tw su sw g) (bl' := WB cyC cyI cyO Z C TR SN HI Y P R BB rt sg pw rd ((h r).1) ((h r).2) h ((r + 1) % 4) (va_up v 1 (if ((v 1) - (1 : Int32)) < 0 then 0 else ((v 1) - (1 : Int32)))) tu tw su sw g) (WSb := WB cyC cyI cyO Z C TR SN HI Y P R BB rt sg pw rd u w h r v tu tw su sw g) (WSb' := WB cyC cyI cyO Z C TR SN HI Y P R BB rt sg pw rd ((h r).1) ((h r).2) h ((r + 1) % 4) (va_up v 1 (if ((v 1) - (1 : Int32)) < 0 then 0 else ((v 1) - (1 : Int32)))) tu tw su sw g) (As := []) (rest := []) hx hb hml hown hts hl.1 (WS := (List.flatten (WB cyC cyI cyO Z C TR SN HI Y P R BB rt sg pw rd u w h r v tu tw su sw g))) (WS' := (List.flatten (WB cyC cyI cyO Z C TR SN HI Y P R BB rt sg pw rd ((h r).1) ((h r).2) h ((r + 1) % 4) (va_up v 1 (if ((v 1) - (1 : Int32)) < 0 then 0 else ((v 1) - (1 : Int32)))) tu tw su sw g))) (ro := (some (.int (nI kn)))) (by have k := kX6_undo l D cyC cyI cyO Z C TR SN HI Y P R BB rt sg pw rd u w h r v tu tw su sw g hr4; rw [undo_s ev (by omega), U2] at k; exact k) bV_X6_undo wml_RL_137 ⟨rfl, rfl⟩ ⟨Nat.le_of_ble_eq_true rfl, Nat.le_of_ble_eq_true rfl, hNC, hNS⟩ [0, 1, 2, 3, 4, 5, 6, 7] rfl rfl rfl rfl rfl rfl rfl hP hD hS hA hK 0 rfl rfl rfl rfl rfl (Nat.le_of_ble_eq_true rfl) dL_law_349 (fun H locs hP hD hS => ?_)
    refine lv_iload hx hb dL_law_352 (lv_at hl 0 rfl) ?_
    refine lv_if_ne (tgt := 362) hx hb dL_law_354 (by decide) (fun _ => ?_) (fun q => absurd q (nI_ne0 (by omega) (by omega)))
    refine lv_iload hx hb dL_law_362 (lv_at hl 0 rfl) ?_
    refine lv_iconst (v := 1) hx hb dL_law_364 (by decide) ?_
    refine lv_isub hx hb dL_law_365 ?_
    rw [show nI (kn + 1) - (1 : Int32) = nI kn from pk_sub (b := 1) (by omega)]
    refine lv_icmp_ne (tgt := 373) hx hb dL_law_366 (by decide) (fun q => absurd rfl q) (fun _ => ?_)
    refine lv_iconst (v := 1) hx hb dL_law_369 (by decide) ?_
    refine lv_goto (tgt := 374) hx hb dL_law_370 (by decide) ?_
    refine lv_istore_n (lv' := [(2, .int 1), (12, .int (nI (kn + 1))), (0, .ref b), (1, .ref (Z 0)), (3, .long (lookF su sw)), (5, .int (nI n))]) hx hb dL_law_374 rfl hl (by decide) rfl (fun ls hl => ?_)
    exact kk rt sg pw rd ((h r).1) ((h r).2) h ((r + 1) % 4) (va_up v 1 (if ((v 1) - (1 : Int32)) < 0 then 0 else ((v 1) - (1 : Int32)))) tu tw su sw g kn U1 H locs hP hD hS ls (lv_sub hl [2, 3, 0, 4, 5] rfl)
set_option maxHeartbeats 4000000 in
set_option maxRecDepth 100000 in
theorem lk_257 (C0 : lw_At p s m meth c b L xs) (hK : KK D cyC cyI cyO s) (hNC : NC ≤ room_1.cells) (hNS : NS ≤ room_1.slots) (hL : L ≤ 260) {B n : Nat} (hn : n < 54) (hB : B < 600000) (kk : LK p l e s m below meth c b D cyC cyI cyO Z C TR SN HI Y P R BB NC NS B n 326) : LK p l e s m below meth c b D cyC cyI cyO Z C TR SN HI Y P R BB NC NS B n 257 := by
  have C1 := C0
  obtain ⟨hx, hb, hr, hml, hown, hts0, hX, hbl, hlocks, hgv⟩ := C1
  have hown : s.vm.findClass RL = some m.cls := hown
  have hts : ∀ w ∈ TB, w.before (#[Value.ref b] : Array Value) s = true := fun w h => hts0 w (List.mem_filter.mp h).1
  have hA : ∀ q : Nat, s.heap.size ≤ q → (fun q : Nat => s.heap.size ≤ q) q := fun _ h => h
  have hbA : ¬ (fun q : Nat => s.heap.size ≤ q) b := Nat.not_le.mpr hbl
  intro rt sg pw rd u w h r v tu tw su sw g kn H0 H locs hP hD hS ls hl
  have H00 := H0
  obtain ⟨i1, i2, i3, i4, ev, hr4, i5, i6, i7⟩ := H00
  have hq := CI_12 i1
  have hq2 := CI_12 i2
  refine lv_iload_n hx hb dL_law_257 rfl (lv_at hl 2 rfl) ?_
  refine lv_if_eq (tgt := 326) hx hb dL_law_258 (by decide) (fun q => absurd q (by decide)) (fun _ => ?_)
  refine lv_iload hx hb dL_law_261 (lv_at hl 4 rfl) ?_
  refine lv_bipush (v := 15) hx hb dL_law_263 (by decide) ?_
  refine lv_irem hx hb dL_law_265 (by decide) ?_
  rw [show nI n - nI n / (15 : Int32) * (15 : Int32) = nI (n % 15) from pk_rem (by omega) (by decide) (by decide)]
  refine lv_bipush (v := 14) hx hb dL_law_266 (by decide) ?_
  refine lv_icmp_ne (tgt := 326) hx hb dL_law_268 (by decide) (fun _ => kk rt sg pw rd u w h r v tu tw su sw g kn H0 H locs hP hD hS ls hl) (fun _ => ?_)
  refine lv_aload_n hx hb dL_law_271 rfl (lv_at hl 1 rfl) ?_
  refine mVB (bl := WB cyC cyI cyO Z C TR SN HI Y P R BB rt sg pw rd u w h r v tu tw su sw g) (bl' := WB cyC cyI cyO Z C TR SN HI Y P R BB rt sg pw rd su sw (va_up h ((r + 3) % 4) (u, w)) ((r + 3) % 4) (VP v) tu tw su sw g) (WSb := WB cyC cyI cyO Z C TR SN HI Y P R BB rt sg pw rd u w h r v tu tw su sw g) (WSb' := WB cyC cyI cyO Z C TR SN HI Y P R BB rt sg pw rd su sw (va_up h ((r + 3) % 4) (u, w)) ((r + 3) % 4) (VP v) tu tw su sw g) (As := []) (rest := []) hx hb hml hown hts hl.1 (WS := (List.flatten (WB cyC cyI cyO Z C TR SN HI Y P R BB rt sg pw rd u w h r v tu tw su sw g))) (WS' := (List.flatten (WB cyC cyI cyO Z C TR SN HI Y P R BB rt sg pw rd su sw (va_up h ((r + 3) % 4) (u, w)) ((r + 3) % 4) (VP v) tu tw su sw g))) (ro := (some (.int (fC su sw 5)))) (by have k := kX6_restore l D cyC cyI cyO Z C TR SN HI Y P R BB rt sg pw rd u w h r v tu tw su sw g hr4; rw [restore_s i7] at k; exact k) bV_X6_restore wml_RL_140 ⟨rfl, rfl⟩ ⟨Nat.le_of_ble_eq_true rfl, Nat.le_of_ble_eq_true rfl, hNC, hNS⟩ [0, 1, 2, 3, 4, 5, 6, 7] rfl rfl rfl rfl rfl rfl rfl hP hD hS hA hK 0 rfl rfl rfl rfl rfl (Nat.le_of_ble_eq_true rfl) dL_law_272 (fun H locs hP hD hS => ?_)
  refine lv_istore (lv' := [(12, .int (fC su sw 5)), (0, .ref b), (1, .ref (Z 0)), (2, .int 1), (3, .long (lookF su sw)), (5, .int (nI n))]) hx hb dL_law_275 hl (by decide) rfl (fun ls hl => ?_)
  refine lv_iload hx hb dL_law_277 (lv_at hl 0 rfl) ?_
  refine lv_aload_n hx hb dL_law_279 rfl (lv_at hl 2 rfl) ?_
  refine lv_iconst (v := 5) hx hb dL_law_280 (by decide) ?_
  refine rVB (bl := WB cyC cyI cyO Z C TR SN HI Y P R BB rt sg pw rd su sw (va_up h ((r + 3) % 4) (u, w)) ((r + 3) % 4) (VP v) tu tw su sw g) (WSb := WB cyC cyI cyO Z C TR SN HI Y P R BB rt sg pw rd su sw (va_up h ((r + 3) % 4) (u, w)) ((r + 3) % 4) (VP v) tu tw su sw g) (As := [.int 5]) (rest := [.int (fC su sw 5)]) hx hb hml hown hts hl.1 (k_fC l D cyC cyI cyO Z C TR SN HI Y P R BB rt sg pw rd su sw (va_up h ((r + 3) % 4) (u, w)) ((r + 3) % 4) (VP v) tu tw su sw g 5 hq2 (vp_lit (by decide))) bV_X6_count wml_RL_13 ⟨rfl, rfl⟩ ⟨Nat.le_of_ble_eq_true rfl, Nat.le_of_ble_eq_true rfl, hNC, hNS⟩ [0, 1, 2, 3, 4, 5, 6, 7] rfl rfl hP hK 0 rfl rfl rfl rfl rfl (Nat.le_of_ble_eq_true rfl) dL_law_281 ?_
  refine lv_icmp_ne (tgt := 319) hx hb dL_law_284 (by decide) (fun q => absurd rfl q) (fun _ => ?_)
  refine lv_aload_n hx hb dL_law_287 rfl (lv_at hl 2 rfl) ?_
  refine rlSB (bl := WB cyC cyI cyO Z C TR SN HI Y P R BB rt sg pw rd su sw (va_up h ((r + 3) % 4) (u, w)) ((r + 3) % 4) (VP v) tu tw su sw g) (WSb := WB cyC cyI cyO Z C TR SN HI Y P R BB rt sg pw rd su sw (va_up h ((r + 3) % 4) (u, w)) ((r + 3) % 4) (VP v) tu tw su sw g) (As := [.ref (Z 0)]) (rest := []) hx hb hml hown hts hl.1 (by have k := kL_look l D cyC cyI cyO Z C TR SN HI Y P R BB rt sg pw rd su sw (va_up h ((r + 3) % 4) (u, w)) ((r + 3) % 4) (VP v) tu tw su sw g hq2; rw [look_F] at k; exact k) bS_L_look wml_RL_75 ⟨rfl, rfl⟩ ⟨Nat.le_of_ble_eq_true rfl, Nat.le_of_ble_eq_true rfl, hNC, hNS⟩ [0, 1, 2, 3, 4, 5, 6, 7] rfl rfl hP hK rfl rfl (Nat.le_of_ble_eq_true rfl) dL_law_288 ?_
  refine lv_lload_n hx hb dL_law_291 rfl (lv_at hl 4 rfl) ?_
  refine W.lcmp hx hb dL_law_292 ?_
  rw [(lg_cmp_eq (lookF su sw) (lookF su sw)).mpr rfl]
  refine lv_if_ne (tgt := 319) hx hb dL_law_293 (by decide) (fun q => absurd rfl q) (fun _ => ?_)
  have J := IV_push H0 i2
  obtain ⟨k1, hk1⟩ : ∃ k1, (if kn = 4 then 4 else kn + 1) = k1 + 1 := by
    by_cases z : kn = 4
    · exact ⟨3, if_pos z⟩
    · exact ⟨kn, if_neg z⟩
  rw [hk1] at J
  have J1 := J
  obtain ⟨j1, j2, j3, j4, jv, jr, j5, j6, j7⟩ := J1
  obtain ⟨U1, U2⟩ := IV_undo J
  generalize hg1 : va_up h ((r + 3) % 4) (u, w) = h1 at hP hD U1
  generalize hg2 : (r + 3) % 4 = r1 at hP hD U1 jr
  generalize hg3 : VP v = v1 at hP hD U1 U2 jv
  refine lv_aload_n hx hb dL_law_296 rfl (lv_at hl 2 rfl) ?_
  refine mVB (bl := WB cyC cyI cyO Z C TR SN HI Y P R BB rt sg pw rd su sw h1 r1 v1 tu tw su sw g) (bl' := WB cyC cyI cyO Z C TR SN HI Y P R BB rt sg pw rd ((h1 r1).1) ((h1 r1).2) h1 ((r1 + 1) % 4) (va_up v1 1 (if ((v1 1) - (1 : Int32)) < 0 then 0 else ((v1 1) - (1 : Int32)))) tu tw su sw g) (WSb := WB cyC cyI cyO Z C TR SN HI Y P R BB rt sg pw rd su sw h1 r1 v1 tu tw su sw g) (WSb' := WB cyC cyI cyO Z C TR SN HI Y P R BB rt sg pw rd ((h1 r1).1) ((h1 r1).2) h1 ((r1 + 1) % 4) (va_up v1 1 (if ((v1 1) - (1 : Int32)) < 0 then 0 else ((v1 1) - (1 : Int32)))) tu tw su sw g) (As := []) (rest := []) hx hb hml hown hts hl.1 (WS := (List.flatten (WB cyC cyI cyO Z C TR SN HI Y P R BB rt sg pw rd su sw h1 r1 v1 tu tw su sw g))) (WS' := (List.flatten (WB cyC cyI cyO Z C TR SN HI Y P R BB rt sg pw rd ((h1 r1).1) ((h1 r1).2) h1 ((r1 + 1) % 4) (va_up v1 1 (if ((v1 1) - (1 : Int32)) < 0 then 0 else ((v1 1) - (1 : Int32)))) tu tw su sw g))) (ro := (some (.int (nI k1)))) (by have k := kX6_undo l D cyC cyI cyO Z C TR SN HI Y P R BB rt sg pw rd su sw h1 r1 v1 tu tw su sw g jr; rw [undo_s jv (by omega), U2] at k; exact k) bV_X6_undo wml_RL_137 ⟨rfl, rfl⟩ ⟨Nat.le_of_ble_eq_true rfl, Nat.le_of_ble_eq_true rfl, hNC, hNS⟩ [0, 1, 2, 3, 4, 5, 6, 7] rfl rfl rfl rfl rfl rfl rfl hP hD hS hA hK 0 rfl rfl rfl rfl rfl (Nat.le_of_ble_eq_true rfl) dL_law_297 (fun H locs hP hD hS => ?_)
  obtain ⟨y1, y2, y3, y4, yv, yr, y5, y6, y7⟩ := U1
  generalize (h1 r1).1 = u2 at *
  generalize (h1 r1).2 = w2 at *
  generalize (r1 + 1) % 4 = r2 at *
  generalize va_up v1 1 (if ((v1 1) - (1 : Int32)) < 0 then 0 else ((v1 1) - (1 : Int32))) = v2 at *
  have yq := CI_12 y1
  refine lv_if_lt (tgt := 319) hx hb dL_law_300 (by decide) (fun q => absurd q (nI_nlt (b := 0) (by omega) (by omega))) (fun _ => ?_)
  refine lv_aload_n hx hb dL_law_303 rfl (lv_at hl 2 rfl) ?_
  refine mVB (bl := WB cyC cyI cyO Z C TR SN HI Y P R BB rt sg pw rd u2 w2 h1 r2 v2 tu tw su sw g) (bl' := WB cyC cyI cyO Z C TR SN HI Y P R BB (va_up rt 3 1) sg pw rd u2 w2 h1 r2 v2 tu tw u2 w2 g) (WSb := WB cyC cyI cyO Z C TR SN HI Y P R BB rt sg pw rd u2 w2 h1 r2 v2 tu tw su sw g) (WSb' := WB cyC cyI cyO Z C TR SN HI Y P R BB (va_up rt 3 1) sg pw rd u2 w2 h1 r2 v2 tu tw u2 w2 g) (As := []) (rest := []) hx hb hml hown hts hl.1 (WS := (List.flatten (WB cyC cyI cyO Z C TR SN HI Y P R BB rt sg pw rd u2 w2 h1 r2 v2 tu tw su sw g))) (WS' := (List.flatten (WB cyC cyI cyO Z C TR SN HI Y P R BB (va_up rt 3 1) sg pw rd u2 w2 h1 r2 v2 tu tw u2 w2 g))) (ro := (some (.int (fC u2 w2 5)))) (by have k := kX6_save l D cyC cyI cyO Z C TR SN HI Y P R BB rt sg pw rd u2 w2 h1 r2 v2 tu tw su sw g; rw [save_s] at k; exact k) bV_X6_save wml_RL_143 ⟨rfl, rfl⟩ ⟨Nat.le_of_ble_eq_true rfl, Nat.le_of_ble_eq_true rfl, hNC, hNS⟩ [0, 1, 2, 3, 4, 5, 6, 7] rfl rfl rfl rfl rfl rfl rfl hP hD hS hA hK 0 rfl rfl rfl rfl rfl (Nat.le_of_ble_eq_true rfl) dL_law_304 (fun H locs hP hD hS => ?_)
  refine lv_aload_n hx hb dL_law_307 rfl (lv_at hl 2 rfl) ?_
  refine lv_iconst (v := 5) hx hb dL_law_308 (by decide) ?_
  refine rVB (bl := WB cyC cyI cyO Z C TR SN HI Y P R BB (va_up rt 3 1) sg pw rd u2 w2 h1 r2 v2 tu tw u2 w2 g) (WSb := WB cyC cyI cyO Z C TR SN HI Y P R BB (va_up rt 3 1) sg pw rd u2 w2 h1 r2 v2 tu tw u2 w2 g) (As := [.int 5]) (rest := [.int (fC u2 w2 5)]) hx hb hml hown hts hl.1 (k_fC l D cyC cyI cyO Z C TR SN HI Y P R BB (va_up rt 3 1) sg pw rd u2 w2 h1 r2 v2 tu tw u2 w2 g 5 yq (vp_lit (by decide))) bV_X6_count wml_RL_13 ⟨rfl, rfl⟩ ⟨Nat.le_of_ble_eq_true rfl, Nat.le_of_ble_eq_true rfl, hNC, hNS⟩ [0, 1, 2, 3, 4, 5, 6, 7] rfl rfl hP hK 0 rfl rfl rfl rfl rfl (Nat.le_of_ble_eq_true rfl) dL_law_309 ?_
  refine lv_icmp_ne (tgt := 319) hx hb dL_law_312 (by decide) (fun q => absurd rfl q) (fun _ => ?_)
  refine lv_iconst (v := 1) hx hb dL_law_315 (by decide) ?_
  refine lv_goto (tgt := 320) hx hb dL_law_316 (by decide) ?_
  refine lv_istore_n (lv' := [(2, .int 1), (12, .int (fC su sw 5)), (0, .ref b), (1, .ref (Z 0)), (3, .long (lookF su sw)), (5, .int (nI n))]) hx hb dL_law_320 rfl hl (by decide) rfl (fun ls hl => ?_)
  refine lv_aload_n hx hb dL_law_321 rfl (lv_at hl 3 rfl) ?_
  refine rlSB (bl := WB cyC cyI cyO Z C TR SN HI Y P R BB (va_up rt 3 1) sg pw rd u2 w2 h1 r2 v2 tu tw u2 w2 g) (WSb := WB cyC cyI cyO Z C TR SN HI Y P R BB (va_up rt 3 1) sg pw rd u2 w2 h1 r2 v2 tu tw u2 w2 g) (As := [.ref (Z 0)]) (rest := []) hx hb hml hown hts hl.1 (by have k := kL_look l D cyC cyI cyO Z C TR SN HI Y P R BB (va_up rt 3 1) sg pw rd u2 w2 h1 r2 v2 tu tw u2 w2 g yq; rw [look_F] at k; exact k) bS_L_look wml_RL_75 ⟨rfl, rfl⟩ ⟨Nat.le_of_ble_eq_true rfl, Nat.le_of_ble_eq_true rfl, hNC, hNS⟩ [0, 1, 2, 3, 4, 5, 6, 7] rfl rfl hP hK rfl rfl (Nat.le_of_ble_eq_true rfl) dL_law_322 ?_
  refine lv_lstore_n (lv' := [(3, .long (lookF u2 w2)), (2, .int 1), (12, .int (fC su sw 5)), (0, .ref b), (1, .ref (Z 0)), (5, .int (nI n))]) hx hb dL_law_325 rfl hl (by decide) rfl (fun ls hl => ?_)
  exact kk (va_up rt 3 1) sg pw rd u2 w2 h1 r2 v2 tu tw u2 w2 g k1 ⟨y1, y1, y3, y4, yv, yr, y5, y6, rfl⟩ H locs hP hD hS ls (lv_sub hl [3, 4, 1, 0, 5] rfl)
end LAWL
