section LAWL
variable {p : Program} {l : Launch} {e : Env} {s : State} {m : MethodId} {below : List Frame} {meth : Method} {c : Code} {b L : Nat} {xs : Nat → Int32} {D : va_G} {cyC cyI cyO : ClassId} {Z C TR SN HI Y P R : Nat → Nat} {BB : Nat → Nat → Nat} {NC NS : Nat}
set_option maxHeartbeats 4000000 in
set_option maxRecDepth 100000 in
theorem lk_207 (C0 : lw_At p s m meth c b L xs) (hK : KK D cyC cyI cyO s) (hNC : NC ≤ room_1.cells) (hNS : NS ≤ room_1.slots) (hL : L ≤ 260) {B n : Nat} (hn : n < 54) (hB : B < 600000) (kk : LK p l e s m below meth c b D cyC cyI cyO Z C TR SN HI Y P R BB NC NS B n 257) : LN p l e s m below meth c b D cyC cyI cyO Z C TR SN HI Y P R BB NC NS B n 207 := by
  have C1 := C0
  obtain ⟨hx, hb, hr, hml, hown, hts0, hX, hbl, hlocks, hgv⟩ := C1
  have hown : s.vm.findClass RL = some m.cls := hown
  have hts : ∀ w ∈ TB, w.before (#[Value.ref b] : Array Value) s = true := fun w h => hts0 w (List.mem_filter.mp h).1
  have hA : ∀ q : Nat, s.heap.size ≤ q → (fun q : Nat => s.heap.size ≤ q) q := fun _ h => h
  have hbA : ¬ (fun q : Nat => s.heap.size ≤ q) b := Nat.not_le.mpr hbl
  intro rt sg pw rd u w h r v tu tw su sw g kn k0 y was H0 hk0 hR H locs hP hD hS ls hl
  have H00 := H0
  obtain ⟨i1, i2, i3, i4, ev, hr4, i5, i6, i7⟩ := H00
  have hq := CI_12 i1
  have hq2 := CI_12 i2
  refine lv_iload_n hx hb dL_law_207 rfl (lv_at hl 2 rfl) ?_
  refine lv_if_eq (tgt := 257) hx hb dL_law_208 (by decide) (fun q => absurd q (by decide)) (fun _ => ?_)
  refine lv_iload hx hb dL_law_211 (lv_at hl 8 rfl) ?_
  refine lv_iload hx hb dL_law_213 (lv_at hl 7 rfl) ?_
  refine lv_iconst (v := 1) hx hb dL_law_215 (by decide) ?_
  refine lv_iadd hx hb dL_law_216 ?_
  rw [show nI k0 + (1 : Int32) = nI (k0 + 1) from nI_add k0 1]
  refine lv_icmp_ne (tgt := 257) hx hb dL_law_217 (by decide) (fun _ => kk rt sg pw rd u w h r v tu tw su sw g kn H0 H locs hP hD hS ls (lv_sub hl [0, 1, 2, 3, 4] rfl)) (fun q => ?_)
  obtain rfl : kn = k0 + 1 := (nI_eq (by omega) (by omega)).mp q
  have hw : lookF (h r).1 (h r).2 = was := by
    rcases hR with z | z
    · omega
    · exact z.2
  obtain ⟨U1, U2⟩ := IV_undo H0
  have U3 := U1
  obtain ⟨y1, y2, y3, y4, yv, yr, y5, y6, y7⟩ := U3
  have yq := CI_12 y1
  refine lv_iload hx hb dL_law_220 (lv_at hl 5 rfl) ?_
  refine lv_bipush (v := 8) hx hb dL_law_222 (by decide) ?_
  refine lv_ishr hx hb dL_law_224 ?_
  refine lv_iconst (v := 3) hx hb dL_law_225 (by decide) ?_
  refine rS (As := [.int (y >>> ((8 : Int32) &&& 31)), .int 3]) (rest := []) hx hb hml hown hts hl.1 (kL_low l D cyC cyI cyO (y >>> ((8 : Int32) &&& 31)) 3 (by decide)) bS_L_low wml_RL_42 ⟨rfl, rfl⟩ ⟨Nat.le_of_ble_eq_true rfl, Nat.le_of_ble_eq_true rfl, hNC, hNS⟩ [] rfl hP hK rfl rfl (Nat.le_of_ble_eq_true rfl) dL_law_226 ?_
  refine lv_if_ne (tgt := 257) hx hb dL_law_229 (by decide) (fun _ => kk rt sg pw rd u w h r v tu tw su sw g (k0 + 1) H0 H locs hP hD hS ls (lv_sub hl [0, 1, 2, 3, 4] rfl)) (fun _ => ?_)
  refine lv_aload_n hx hb dL_law_232 rfl (lv_at hl 1 rfl) ?_
  refine mVB (bl := WB cyC cyI cyO Z C TR SN HI Y P R BB rt sg pw rd u w h r v tu tw su sw g) (bl' := WB cyC cyI cyO Z C TR SN HI Y P R BB rt sg pw rd ((h r).1) ((h r).2) h ((r + 1) % 4) (va_up v 1 (if ((v 1) - (1 : Int32)) < 0 then 0 else ((v 1) - (1 : Int32)))) tu tw su sw g) (WSb := WB cyC cyI cyO Z C TR SN HI Y P R BB rt sg pw rd u w h r v tu tw su sw g) (WSb' := WB cyC cyI cyO Z C TR SN HI Y P R BB rt sg pw rd ((h r).1) ((h r).2) h ((r + 1) % 4) (va_up v 1 (if ((v 1) - (1 : Int32)) < 0 then 0 else ((v 1) - (1 : Int32)))) tu tw su sw g) (As := []) (rest := []) hx hb hml hown hts hl.1 (WS := (List.flatten (WB cyC cyI cyO Z C TR SN HI Y P R BB rt sg pw rd u w h r v tu tw su sw g))) (WS' := (List.flatten (WB cyC cyI cyO Z C TR SN HI Y P R BB rt sg pw rd ((h r).1) ((h r).2) h ((r + 1) % 4) (va_up v 1 (if ((v 1) - (1 : Int32)) < 0 then 0 else ((v 1) - (1 : Int32)))) tu tw su sw g))) (ro := (some (.int (nI k0)))) (by have k := kX6_undo l D cyC cyI cyO Z C TR SN HI Y P R BB rt sg pw rd u w h r v tu tw su sw g hr4; rw [undo_s ev (by omega), U2] at k; exact k) bV_X6_undo wml_RL_137 ⟨rfl, rfl⟩ ⟨Nat.le_of_ble_eq_true rfl, Nat.le_of_ble_eq_true rfl, hNC, hNS⟩ [0, 1, 2, 3, 4, 5, 6, 7] rfl rfl rfl rfl rfl rfl rfl hP hD hS hA hK 0 rfl rfl rfl rfl rfl (Nat.le_of_ble_eq_true rfl) dL_law_233 (fun H locs hP hD hS => ?_)
  refine lv_iload hx hb dL_law_236 (lv_at hl 7 rfl) ?_
  refine lv_icmp_ne (tgt := 255) hx hb dL_law_238 (by decide) (fun q => absurd rfl q) (fun _ => ?_)
  refine lv_aload_n hx hb dL_law_241 rfl (lv_at hl 1 rfl) ?_
  refine rlSB (bl := WB cyC cyI cyO Z C TR SN HI Y P R BB rt sg pw rd ((h r).1) ((h r).2) h ((r + 1) % 4) (va_up v 1 (if ((v 1) - (1 : Int32)) < 0 then 0 else ((v 1) - (1 : Int32)))) tu tw su sw g) (WSb := WB cyC cyI cyO Z C TR SN HI Y P R BB rt sg pw rd ((h r).1) ((h r).2) h ((r + 1) % 4) (va_up v 1 (if ((v 1) - (1 : Int32)) < 0 then 0 else ((v 1) - (1 : Int32)))) tu tw su sw g) (As := [.ref (Z 0)]) (rest := []) hx hb hml hown hts hl.1 (by have k := kL_look l D cyC cyI cyO Z C TR SN HI Y P R BB rt sg pw rd ((h r).1) ((h r).2) h ((r + 1) % 4) (va_up v 1 (if ((v 1) - (1 : Int32)) < 0 then 0 else ((v 1) - (1 : Int32)))) tu tw su sw g yq; rw [look_F] at k; exact k) bS_L_look wml_RL_75 ⟨rfl, rfl⟩ ⟨Nat.le_of_ble_eq_true rfl, Nat.le_of_ble_eq_true rfl, hNC, hNS⟩ [0, 1, 2, 3, 4, 5, 6, 7] rfl rfl hP hK rfl rfl (Nat.le_of_ble_eq_true rfl) dL_law_242 ?_
  refine lv_lload hx hb dL_law_245 (lv_at hl 6 rfl) ?_
  refine W.lcmp hx hb dL_law_247 ?_
  rw [hw, (lg_cmp_eq was was).mpr rfl]
  refine lv_if_ne (tgt := 255) hx hb dL_law_248 (by decide) (fun q => absurd rfl q) (fun _ => ?_)
  refine lv_iconst (v := 1) hx hb dL_law_251 (by decide) ?_
  refine lv_goto (tgt := 256) hx hb dL_law_252 (by decide) ?_
  refine lv_istore_n (lv' := [(2, .int 1), (0, .ref b), (1, .ref (Z 0)), (3, .long (lookF su sw)), (5, .int (nI n)), (7, .int y), (8, .long was), (10, .int (nI k0)), (11, .int (nI (k0 + 1)))]) hx hb dL_law_256 rfl hl (by decide) rfl (fun ls hl => ?_)
  exact kk rt sg pw rd ((h r).1) ((h r).2) h ((r + 1) % 4) (va_up v 1 (if ((v 1) - (1 : Int32)) < 0 then 0 else ((v 1) - (1 : Int32)))) tu tw su sw g k0 U1 H locs hP hD hS ls (lv_sub hl [1, 2, 0, 3, 4] rfl)
set_option maxHeartbeats 4000000 in
set_option maxRecDepth 100000 in
theorem lk_201 (C0 : lw_At p s m meth c b L xs) (hK : KK D cyC cyI cyO s) (hNC : NC ≤ room_1.cells) (hNS : NS ≤ room_1.slots) (hL : L ≤ 260) {B n : Nat} (hn : n < 54) (hB : B < 600000) (kk : LN p l e s m below meth c b D cyC cyI cyO Z C TR SN HI Y P R BB NC NS B n 207) : LN p l e s m below meth c b D cyC cyI cyO Z C TR SN HI Y P R BB NC NS B n 201 := by
  have C1 := C0
  obtain ⟨hx, hb, hr, hml, hown, hts0, hX, hbl, hlocks, hgv⟩ := C1
  have hown : s.vm.findClass RL = some m.cls := hown
  have hts : ∀ w ∈ TB, w.before (#[Value.ref b] : Array Value) s = true := fun w h => hts0 w (List.mem_filter.mp h).1
  have hA : ∀ q : Nat, s.heap.size ≤ q → (fun q : Nat => s.heap.size ≤ q) q := fun _ h => h
  have hbA : ¬ (fun q : Nat => s.heap.size ≤ q) b := Nat.not_le.mpr hbl
  intro rt sg pw rd u w h r v tu tw su sw g kn k0 y was H0 hk0 hR H locs hP hD hS ls hl
  have H00 := H0
  obtain ⟨i1, i2, i3, i4, ev, hr4, i5, i6, i7⟩ := H00
  have hq := CI_12 i1
  have hq2 := CI_12 i2
  refine lv_iconst (v := 1) hx hb dL_law_201 (by decide) ?_
  refine lv_goto (tgt := 206) hx hb dL_law_202 (by decide) ?_
  refine lv_istore_n (lv' := [(2, .int 1), (0, .ref b), (1, .ref (Z 0)), (3, .long (lookF su sw)), (5, .int (nI n)), (7, .int y), (8, .long was), (10, .int (nI k0)), (11, .int (nI kn))]) hx hb dL_law_206 rfl hl (by decide) rfl (fun ls hl => ?_)
  exact kk rt sg pw rd u w h r v tu tw su sw g kn k0 y was H0 hk0 hR H locs hP hD hS ls (lv_sub hl [1, 2, 0, 3, 4, 5, 6, 7, 8] rfl)
set_option maxHeartbeats 4000000 in
set_option maxRecDepth 100000 in
theorem lk_151 (C0 : lw_At p s m meth c b L xs) (hK : KK D cyC cyI cyO s) (hNC : NC ≤ room_1.cells) (hNS : NS ≤ room_1.slots) (hL : L ≤ 260) {B n : Nat} (hn : n < 54) (hB : B < 600000) (kk : LN p l e s m below meth c b D cyC cyI cyO Z C TR SN HI Y P R BB NC NS B n 201) : LM p l e s m below meth c b D cyC cyI cyO Z C TR SN HI Y P R BB NC NS B n 151 := by
  have C1 := C0
  obtain ⟨hx, hb, hr, hml, hown, hts0, hX, hbl, hlocks, hgv⟩ := C1
  have hown : s.vm.findClass RL = some m.cls := hown
  have hts : ∀ w ∈ TB, w.before (#[Value.ref b] : Array Value) s = true := fun w h => hts0 w (List.mem_filter.mp h).1
  have hA : ∀ q : Nat, s.heap.size ≤ q → (fun q : Nat => s.heap.size ≤ q) q := fun _ h => h
  have hbA : ¬ (fun q : Nat => s.heap.size ≤ q) b := Nat.not_le.mpr hbl
  intro rt sg pw rd u w h r v tu tw su sw g kn k0 y was H0 hk0 hR H locs hP hD hS ls hl
  have H00 := H0
  obtain ⟨i1, i2, i3, i4, ev, hr4, i5, i6, i7⟩ := H00
  have hq := CI_12 i1
  have hq2 := CI_12 i2
  refine lv_iconst (v := 1) hx hb dL_law_151 (by decide) ?_
  refine lv_goto (tgt := 156) hx hb dL_law_152 (by decide) ?_
  refine lv_istore_n (lv' := [(2, .int 1), (0, .ref b), (1, .ref (Z 0)), (3, .long (lookF su sw)), (5, .int (nI n)), (7, .int y), (8, .long was), (10, .int (nI k0))]) hx hb dL_law_156 rfl hl (by decide) rfl (fun ls hl => ?_)
  refine lv_aload_n hx hb dL_law_157 rfl (lv_at hl 2 rfl) ?_
  refine lv_bipush (v := 17) hx hb dL_law_158 (by decide) ?_
  refine rVB (bl := WB cyC cyI cyO Z C TR SN HI Y P R BB rt sg pw rd u w h r v tu tw su sw g) (WSb := WB cyC cyI cyO Z C TR SN HI Y P R BB rt sg pw rd u w h r v tu tw su sw g) (As := [.int 17]) (rest := []) hx hb hml hown hts hl.1 (by have k := k_fC17 l D cyC cyI cyO Z C TR SN HI Y P R BB rt sg pw rd u w h r v tu tw su sw g hq; rw [ev] at k; exact k) bV_X6_count wml_RL_13 ⟨rfl, rfl⟩ ⟨Nat.le_of_ble_eq_true rfl, Nat.le_of_ble_eq_true rfl, hNC, hNS⟩ [0, 1, 2, 3, 4, 5, 6, 7] rfl rfl hP hK 0 rfl rfl rfl rfl rfl (Nat.le_of_ble_eq_true rfl) dL_law_160 ?_
  refine lv_istore (lv' := [(11, .int (nI kn)), (2, .int 1), (0, .ref b), (1, .ref (Z 0)), (3, .long (lookF su sw)), (5, .int (nI n)), (7, .int y), (8, .long was), (10, .int (nI k0))]) hx hb dL_law_163 hl (by decide) rfl (fun ls hl => ?_)
  refine lv_iload_n hx hb dL_law_165 rfl (lv_at hl 1 rfl) ?_
  refine lv_if_eq (tgt := 205) hx hb dL_law_166 (by decide) (fun q => absurd q (by decide)) (fun _ => ?_)
  refine lv_iload hx hb dL_law_169 (lv_at hl 0 rfl) ?_
  refine lv_iload hx hb dL_law_171 (lv_at hl 8 rfl) ?_
  refine lv_icmp_ne (tgt := 192) hx hb dL_law_173 (by decide) (fun q => ?_) (fun q => ?_)
  · obtain rfl : kn = k0 + 1 := by
      have z : ¬ kn = k0 := fun z => q (by rw [z])
      rcases hR with y | y
      · exact absurd y.1 z
      · have y1 := y.1
        split at y1 <;> omega
    refine lv_iload hx hb dL_law_192 (lv_at hl 0 rfl) ?_
    refine lv_iload hx hb dL_law_194 (lv_at hl 8 rfl) ?_
    refine lv_iconst (v := 1) hx hb dL_law_196 (by decide) ?_
    refine lv_iadd hx hb dL_law_197 ?_
    rw [show nI k0 + (1 : Int32) = nI (k0 + 1) from nI_add k0 1]
    refine lv_icmp_ne (tgt := 205) hx hb dL_law_198 (by decide) (fun q => absurd rfl q) (fun _ => ?_)
    exact kk rt sg pw rd u w h r v tu tw su sw g (k0 + 1) k0 y was H0 hk0 hR H locs hP hD hS ls (lv_sub hl [2, 3, 1, 4, 5, 6, 7, 8, 0] rfl)
  · have q : kn = k0 := (nI_eq (by omega) (by omega)).mp q
    refine lv_iload hx hb dL_law_176 (lv_at hl 8 rfl) ?_
    refine lv_iconst (v := 4) hx hb dL_law_178 (by decide) ?_
    refine lv_icmp_eq (tgt := 201) hx hb dL_law_179 (by decide) (fun _ => ?_) (fun q4 => ?_)
    · exact kk rt sg pw rd u w h r v tu tw su sw g kn k0 y was H0 hk0 hR H locs hP hD hS ls (lv_sub hl [2, 3, 1, 4, 5, 6, 7, 8, 0] rfl)
    · have hw : lookF u w = was := by
        rcases hR with y | y
        · exact y.2
        · have y1 := y.1
          have n4 : ¬ k0 = 4 := fun z => q4 (by rw [z]; rfl)
          rw [if_neg n4] at y1
          omega
      refine lv_aload_n hx hb dL_law_182 rfl (lv_at hl 3 rfl) ?_
      refine rlSB (bl := WB cyC cyI cyO Z C TR SN HI Y P R BB rt sg pw rd u w h r v tu tw su sw g) (WSb := WB cyC cyI cyO Z C TR SN HI Y P R BB rt sg pw rd u w h r v tu tw su sw g) (As := [.ref (Z 0)]) (rest := []) hx hb hml hown hts hl.1 (by have k := kL_look l D cyC cyI cyO Z C TR SN HI Y P R BB rt sg pw rd u w h r v tu tw su sw g hq; rw [look_F] at k; exact k) bS_L_look wml_RL_75 ⟨rfl, rfl⟩ ⟨Nat.le_of_ble_eq_true rfl, Nat.le_of_ble_eq_true rfl, hNC, hNS⟩ [0, 1, 2, 3, 4, 5, 6, 7] rfl rfl hP hK rfl rfl (Nat.le_of_ble_eq_true rfl) dL_law_183 ?_
      refine lv_lload hx hb dL_law_186 (lv_at hl 7 rfl) ?_
      refine W.lcmp hx hb dL_law_188 ?_
      rw [hw, (lg_cmp_eq was was).mpr rfl]
      refine lv_if_eq (tgt := 201) hx hb dL_law_189 (by decide) (fun _ => ?_) (fun q => absurd rfl q)
      exact kk rt sg pw rd u w h r v tu tw su sw g kn k0 y was H0 hk0 hR H locs hP hD hS ls (lv_sub hl [2, 3, 1, 4, 5, 6, 7, 8, 0] rfl)
set_option maxHeartbeats 4000000 in
set_option maxRecDepth 100000 in
theorem lk_134 (C0 : lw_At p s m meth c b L xs) (hK : KK D cyC cyI cyO s) (hNC : NC ≤ room_1.cells) (hNS : NS ≤ room_1.slots) (hL : L ≤ 260) {B n : Nat} (hn : n < 54) (hB : B < 600000) (kk : LM p l e s m below meth c b D cyC cyI cyO Z C TR SN HI Y P R BB NC NS B n 151) : LM p l e s m below meth c b D cyC cyI cyO Z C TR SN HI Y P R BB NC NS B n 134 := by
  have C1 := C0
  obtain ⟨hx, hb, hr, hml, hown, hts0, hX, hbl, hlocks, hgv⟩ := C1
  have hown : s.vm.findClass RL = some m.cls := hown
  have hts : ∀ w ∈ TB, w.before (#[Value.ref b] : Array Value) s = true := fun w h => hts0 w (List.mem_filter.mp h).1
  have hA : ∀ q : Nat, s.heap.size ≤ q → (fun q : Nat => s.heap.size ≤ q) q := fun _ h => h
  have hbA : ¬ (fun q : Nat => s.heap.size ≤ q) b := Nat.not_le.mpr hbl
  intro rt sg pw rd u w h r v tu tw su sw g kn k0 y was H0 hk0 hR H locs hP hD hS ls hl
  have H00 := H0
  obtain ⟨i1, i2, i3, i4, ev, hr4, i5, i6, i7⟩ := H00
  have hq := CI_12 i1
  have hq2 := CI_12 i2
  refine lv_iload hx hb dL_law_134 (lv_at hl 4 rfl) ?_
  refine lv_iconst (v := 4) hx hb dL_law_136 (by decide) ?_
  refine lv_irem hx hb dL_law_137 (by decide) ?_
  rw [show nI n - nI n / (4 : Int32) * (4 : Int32) = nI (n % 4) from pk_rem (by omega) (by decide) (by decide)]
  refine lv_iconst (v := 2) hx hb dL_law_138 (by decide) ?_
  refine lv_icmp_ne (tgt := 151) hx hb dL_law_139 (by decide) (fun _ => kk rt sg pw rd u w h r v tu tw su sw g kn k0 y was H0 hk0 hR H locs hP hD hS ls hl) (fun _ => ?_)
  refine lv_aload_n hx hb dL_law_142 rfl (lv_at hl 1 rfl) ?_
  refine lv_iload hx hb dL_law_143 (lv_at hl 5 rfl) ?_
  refine mSB (bl := WB cyC cyI cyO Z C TR SN HI Y P R BB rt sg pw rd u w h r v tu tw su sw g) (bl' := WB cyC cyI cyO Z C TR SN HI Y P R BB rt sg pw rd u w h r v ((pL_would rt sg pw rd u w h r v tu tw su sw g y).1) ((pL_would rt sg pw rd u w h r v tu tw su sw g y).2.1) su sw ((pL_would rt sg pw rd u w h r v tu tw su sw g y).2.2)) (WSb := WB cyC cyI cyO Z C TR SN HI Y P R BB rt sg pw rd u w h r v tu tw su sw g) (WSb' := WB cyC cyI cyO Z C TR SN HI Y P R BB rt sg pw rd u w h r v ((pL_would rt sg pw rd u w h r v tu tw su sw g y).1) ((pL_would rt sg pw rd u w h r v tu tw su sw g y).2.1) su sw ((pL_would rt sg pw rd u w h r v tu tw su sw g y).2.2)) (As := [.ref (Z 0), .int y]) (rest := []) hx hb hml hown hts hl.1 (WS := (List.flatten (WB cyC cyI cyO Z C TR SN HI Y P R BB rt sg pw rd u w h r v tu tw su sw g))) (WS' := (List.flatten (WB cyC cyI cyO Z C TR SN HI Y P R BB rt sg pw rd u w h r v ((pL_would rt sg pw rd u w h r v tu tw su sw g y).1) ((pL_would rt sg pw rd u w h r v tu tw su sw g y).2.1) su sw ((pL_would rt sg pw rd u w h r v tu tw su sw g y).2.2)))) (ro := (some (.int 1))) (kL_would l D cyC cyI cyO Z C TR SN HI Y P R BB rt sg pw rd u w h r v tu tw su sw g y hq (F_would i1 (by omega) rt sg pw rd h r v tu tw su sw g y)) bS_L_would wml_RL_134 ⟨rfl, rfl⟩ ⟨Nat.le_of_ble_eq_true rfl, Nat.le_of_ble_eq_true rfl, hNC, hNS⟩ [0, 1, 2, 3, 4, 5, 6, 7] rfl rfl rfl rfl rfl rfl rfl hP hD hS hA hK rfl rfl (Nat.le_of_ble_eq_true rfl) dL_law_145 (fun H locs hP hD hS => ?_)
  refine lv_if_eq (tgt := 155) hx hb dL_law_148 (by decide) (fun q => absurd q (by decide)) (fun _ => ?_)
  exact kk rt sg pw rd u w h r v ((pL_would rt sg pw rd u w h r v tu tw su sw g y).1) ((pL_would rt sg pw rd u w h r v tu tw su sw g y).2.1) su sw ((pL_would rt sg pw rd u w h r v tu tw su sw g y).2.2) kn k0 y was H0 hk0 hR H locs hP hD hS ls hl
end LAWL
