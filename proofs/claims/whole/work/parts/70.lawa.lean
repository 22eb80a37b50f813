/-! ===== the law's cases ===== -/
section RDB
variable {p : Program} {l : Launch} {e : Env} {R : Room} {s : State} {m : MethodId} {args : Array Value} {below : List Frame} {meth : Method} {c : Code} {H : Heap} {locs : List Loc} {cells slots : Nat} {Q : State → Prop}
variable {pc : Nat} {ls : Array Slot} {rest st0 : List Value} {a : Array Value}
theorem rd_end {r : UInt64} (hr : va_Run p l e R s m args below meth c H locs cells slots 0 0 (F0 m pc ls st0) rest (vp_Sd (fun x => x = r) a) (fun _ => False))
    (kk : W p l e R s m args below meth c H locs cells slots Q (F0 m (pc + 3) ls (.double r :: rest))) : W p l e R s m args below meth c H locs cells slots Q (F0 m pc ls st0) := by
  intro T hT X
  obtain ⟨v, st₀, t, T', L, h0, X', hL, e1, e2, ⟨r', hv, hp, hh⟩, st⟩ := hr T hT X
  cases hv
  subst hp
  obtain ⟨t2, a1, b1⟩ := kk T' (by rw [e1, hh, h0]) (Stand.forget X' (fun q h => (hL q h).elim))
  exact ⟨t2, st t2 a1, b1⟩
variable {y : MethodName} {cc bytes : ByteArray} {maxL nL n index : Nat} {ret : Option FieldType} {rm : Room} {own C : String} {b : Addr} {As : List Value} {D : va_G} {cyC cyI cyO : ClassId} {WS : va_W} {bl WSb : List va_W} {r : UInt64}
theorem rdVB (hx : p.tables.exec = Jvm.exec) (hb : c.code = cc) (hml : c.maxLocals = nL) (hown : s.vm.findClass own = some m.cls) (hts : ∀ w ∈ TB, w.before args s = true) (hls : ls.size = nL)
    (hM : ROd l y (Ty y bytes maxL ret) rm D cyC cyI cyO WS (.ref b :: As) r) (hB : BV C y bytes maxL ret n) (hlk : Cond.methodLink own index y ∈ TB) (hrc : rm.cells = 0 ∧ rm.slots = 0)
    (hR : rm.frames + 1 ≤ R.frames ∧ 8 + (maxL + 11) + rm.locals ≤ R.locals ∧ cells ≤ R.cells ∧ slots ≤ R.slots)
    (is : List Nat) (h1 : WSb.flatten = WS) (hC : is.map (fun i => bl[i]?) = WSb.map some) (hP : va_P D vwCl bl.flatten H) (hK : KK D cyC cyI cyO s) (q0 : Nat) {ci : Nat} {fs : List Value} {q : vw_C} (he : WS[q0]? = some (b, .inr (ci, fs))) (hc : vwCl[ci]? = some q) (hqC : q.1 = C) (hn : As.length = n) (hst : st0 = As.reverse ++ .ref b :: rest) (hroom : (rest.map fun v => v.category).sum ≤ 8) (hdg : decode cc pc = .ok (.invokevirtual index, 3))
    (kk : W p l e R s m args below meth c H locs cells slots Q (F0 m (pc + 3) ls (.double r :: rest))) : W p l e R s m args below meth c H locs cells slots Q (F0 m pc ls st0) := by
  subst hqC
  subst h1
  have hP2 := bl_sub is hC hP
  exact rd_end (va_runV (C := q.1) (As := As) (rest := rest) ⟨hx, hb, hml, hown, hts⟩ hM (cwV n hts (good4 hlk hB.2.1 hB.2.2.1 hB.2.2.2.1 (TyGood hB.1)) rfl hrc.1 hrc.2 hB.2.2.2.2 ⟨hR.1, hR.2.1⟩) ⟨ro_blind, va_recv hK.1 hP2 hc he, fun U hU hW => ⟨rfl, by rw [hU]; exact hP2, hK.warm hW⟩⟩ rfl hn hls hst (lv_room hroom) hdg hR.2.2) kk
end RDB
theorem RA_facts {N : Nat} {rt : Nat → Int32} {sg : Nat → Nat → Int32} {pw : Nat → Int32} {u : Nat → Nat → Int32} {w : Nat → Int32} {h : Nat → (Nat → Nat → Int32) × (Nat → Int32)} {r : Nat} {v : Nat → Int32} {su : Nat → Nat → Int32} {sw : Nat → Int32} {mm : Nat → Nat → Int32} {xx : Nat → Int32} {kn n : Nat} (H : RA N rt sg pw u w h r v su sw mm xx kn n) : r < 4 ∧ w 12 < 4 ∧ CH sg ∧ kn ≤ 4 ∧ xx 3 = nI kn ∧ mm 0 2 ≤ 3 ∧ LN mm ∧ vp_in (xx 7) 61 ∧ xx 7 ≤ 60 ∧ xx 7 = nI n ∧ n ≤ 60 := by
  obtain ⟨a, ⟨b1, b2, b3, b4, b5⟩, c, ⟨d1, d2, d3, d4, d5⟩, e⟩ := H
  obtain ⟨-, -, -, -, -, ⟨q, hq, h12, h2⟩, -⟩ := a.2.2
  refine ⟨b4, ?_, d4, b1, b3, ?_, fun j hj => ?_, ?_, ?_, d3, d1⟩
  · rw [h12]
    exact nI_lt (b := 4) hq (by decide)
  · rw [h2]
    exact nI_le (b := 3) (by omega) (by decide)
  · obtain ⟨b0, l0, a0, c0, e0, f0, b9, e1, f1, l4, -⟩ := a.1 j hj
    rw [f1]
    exact ⟨nI_pos' (by omega), nI_le (b := 4) l4 (by decide)⟩
  · rw [d3]
    exact vp_in_nI (by omega) (by decide)
  · rw [d3]
    exact nI_le (b := 60) d1 (by decide)
theorem kX7_undoK (l : Launch) (D : va_G) (cyC cyI cyO : ClassId) (A : Nat → Nat) (u : Nat → Nat → Int32) (w : Nat → Int32) (kn : Nat) (hkn : kn ≤ 4) (hk : w 3 = nI kn) : MU l yX7_undo (Ty yX7_undo cX7_undo 1 (some .int)) ({ frames := 1, cells := 0, slots := 0, locals := 24 } : Room) D cyC cyI cyO (wM cyI A u w) [.ref (A 0)] (some (.int (pX7_undo u w kn).1)) (wM cyI A (pX7_undo u w kn).2.1 (pX7_undo u w kn).2.2) := by
  have h := kX7_undo l D cyC cyI cyO A u w kn hkn
  rw [va_up_id hk] at h
  exact h
theorem vq_ {i L k : Nat} (hk : k < 5) (hi : 5 * i + 5 ≤ L) (hL : L ≤ 2560) : vp_in (nI (5 * i) + nI k) L := by
  rw [nI_add]
  exact vp_in_nI (by omega) (by omega)
theorem vq1 {i L : Nat} (hi : 5 * i + 5 ≤ L) (hL : L ≤ 2560) : vp_in (nI (5 * i) + (1 : Int32)) L := vq_ (k := 1) (by decide) hi hL
theorem vq2 {i L : Nat} (hi : 5 * i + 5 ≤ L) (hL : L ≤ 2560) : vp_in (nI (5 * i) + (2 : Int32)) L := vq_ (k := 2) (by decide) hi hL
theorem vq3 {i L : Nat} (hi : 5 * i + 5 ≤ L) (hL : L ≤ 2560) : vp_in (nI (5 * i) + (3 : Int32)) L := vq_ (k := 3) (by decide) hi hL
theorem vq4 {i L : Nat} (hi : 5 * i + 5 ≤ L) (hL : L ≤ 2560) : vp_in (nI (5 * i) + (4 : Int32)) L := vq_ (k := 4) (by decide) hi hL
/-- what is owed behind a case: at 962, one call further on -/
def LK (p : Program) (l : Launch) (e : Env) (s : State) (m : MethodId) (below : List Frame) (meth : Method) (c : Code) (b : Nat) (D : va_G) (cyC cyI cyO : ClassId) (Z C TR SN HI Y P R A : Nat → Nat) (BB : Nat → Nat → Nat) (NC NS i : Nat) : Prop := ∀ (rt : Nat → Int32) (sg : Nat → Nat → Int32) (pw rd : Nat → Int32) (u : Nat → Nat → Int32) (w : Nat → Int32) (h : Nat → (Nat → Nat → Int32) × (Nat → Int32)) (r : Nat) (v : Nat → Int32) (tu : Nat → Nat → Int32) (tw : Nat → Int32) (su : Nat → Nat → Int32) (sw : Nat → Int32) (g : Nat → Nat → Int32) (mm : Nat → Nat → Int32) (xx : Nat → Int32) (kn n : Nat), RA (128 * (i + 1)) rt sg pw u w h r v su sw mm xx kn n → ∀ (H : Heap) (locs : List Loc), va_P D vwCl (List.flatten [wRt Z C TR SN HI Y P R rt, wPd cyC P sg pw, wRd R P rd, wC cyI C u w, wHM cyI cyO HI BB h r v, wC cyI TR tu tw, wC cyI SN su sw, wWy cyI Y g, wM cyI A mm xx]) H → va_D (fun q : Nat => s.heap.size ≤ q) (List.flatten [wRt Z C TR SN HI Y P R rt, wPd cyC P sg pw, wRd R P rd, wC cyI C u w, wHM cyI cyO HI BB h r v, wC cyI TR tu tw, wC cyI SN su sw, wWy cyI Y g, wM cyI A mm xx]) → va_S (fun q : Nat => s.heap.size ≤ q) s.heap H locs → ∀ (ls : Array Slot), lv_has ls 8 [(0, .ref b), (1, .ref (Z 0)), (2, .ref (A 0)), (3, .int (nI (5 * i)))] → W p l e room_1 s m (#[Value.ref b] : Array Value) below meth c H locs NC NS (lw_Z below #[Value.ref b] s) (F0 m 962 ls [])
section LAWC
variable {p : Program} {l : Launch} {e : Env} {s : State} {m : MethodId} {below : List Frame} {meth : Method} {c : Code} {b L : Nat} {xs : Nat → Int32} {D : va_G} {cyC cyI cyO : ClassId} {Z C TR SN HI Y P R A : Nat → Nat} {BB : Nat → Nat → Nat} {NC NS i : Nat}
set_option maxHeartbeats 4000000 in
set_option maxRecDepth 100000 in
theorem lc_0 (C0 : lw_At p s m meth c b L xs) (hK : KK D cyC cyI cyO s) (hNC : NC ≤ room_1.cells) (hNS : NS ≤ room_1.slots) (hi : 5 * i + 5 ≤ L) (hL : L ≤ 2560) (rt : Nat → Int32) (sg : Nat → Nat → Int32) (pw rd : Nat → Int32) (u : Nat → Nat → Int32) (w : Nat → Int32) (h : Nat → (Nat → Nat → Int32) × (Nat → Int32)) (r : Nat) (v : Nat → Int32) (tu : Nat → Nat → Int32) (tw : Nat → Int32) (su : Nat → Nat → Int32) (sw : Nat → Int32) (g : Nat → Nat → Int32) (mm : Nat → Nat → Int32) (xx : Nat → Int32) (kn n : Nat) (H0 : RA (128 * i) rt sg pw u w h r v su sw mm xx kn n) (kk : LK p l e s m below meth c b D cyC cyI cyO Z C TR SN HI Y P R A BB NC NS i) : ∀ (H : Heap) (locs : List Loc), va_P D vwCl (List.flatten [wRt Z C TR SN HI Y P R rt, wPd cyC P sg pw, wRd R P rd, wC cyI C u w, wHM cyI cyO HI BB h r v, wC cyI TR tu tw, wC cyI SN su sw, wWy cyI Y g, wM cyI A mm xx]) H → va_D (fun q : Nat => s.heap.size ≤ q) (List.flatten [wRt Z C TR SN HI Y P R rt, wPd cyC P sg pw, wRd R P rd, wC cyI C u w, wHM cyI cyO HI BB h r v, wC cyI TR tu tw, wC cyI SN su sw, wWy cyI Y g, wM cyI A mm xx]) → va_S (fun q : Nat => s.heap.size ≤ q) s.heap H locs → ∀ (ls : Array Slot), lv_has ls 8 [(0, .ref b), (1, .ref (Z 0)), (2, .ref (A 0)), (3, .int (nI (5 * i)))] → W p l e room_1 s m (#[Value.ref b] : Array Value) below meth c H locs NC NS (lw_Z below #[Value.ref b] s) (F0 m 168 ls []) := by
  intro H locs hP hD hS ls hl
  obtain ⟨hx, hb, hr, hml, hown, hts0, hX, hbl, hlocks, hgv⟩ := C0
  have hown : s.vm.findClass RL = some m.cls := hown
  have hts : ∀ w ∈ TB, w.before (#[Value.ref b] : Array Value) s = true := fun w h => hts0 w (List.mem_filter.mp h).1
  have hA : ∀ q : Nat, s.heap.size ≤ q → (fun q : Nat => s.heap.size ≤ q) q := fun _ h => h
  have hbA : ¬ (fun q : Nat => s.heap.size ≤ q) b := Nat.not_le.mpr hbl
  obtain ⟨f_r, f_q, f_ch, f_kn, f_k, f_m3, f_ln, f_l7, f_l6, f_7, f_n⟩ := RA_facts H0
  have f_N : 128 * i < 100000000 := by omega
  have f_N2 : 128 * i < 900000 := by omega
  have f_N3 : 128 * i < 800000 := by omega
  obtain ⟨z6, hz6⟩ : ∃ q, q = (pX6_bears rt sg pw rd u w h r v tu tw su sw g (xs (nI (5 * i) + (1 : Int32)).toNatClampNeg) (xs (nI (5 * i) + (2 : Int32)).toNatClampNeg)) := ⟨_, rfl⟩
  obtain ⟨z7, hz7⟩ : ∃ q, q = (pX7_bears mm xx (xs (nI (5 * i) + (1 : Int32)).toNatClampNeg) (xs (nI (5 * i) + (2 : Int32)).toNatClampNeg) kn) := ⟨_, rfl⟩
  have Q := q_bears (rt := rt) (sg := sg) (pw := pw) (rd := rd) (u := u) (w := w) (h := h) (r := r) (v := v) (tu := tu) (tw := tw) (su := su) (sw := sw) (g := g) H0 (xs (nI (5 * i) + (1 : Int32)).toNatClampNeg) (xs (nI (5 * i) + (2 : Int32)).toNatClampNeg)
  rw [← hz6, ← hz7] at Q
  obtain ⟨Q1, kn', Q2⟩ := Q
  refine lv_aload_n hx hb dL_law_168 rfl (lv_at hl 1 rfl) ?_
  refine lv_aload_n hx hb dL_law_169 rfl (lv_at hl 0 rfl) ?_
  refine lv_iload_n hx hb dL_law_170 rfl (lv_at hl 3 rfl) ?_
  refine lv_iconst (v := 1) hx hb dL_law_171 (by decide) ?_
  refine lv_iadd hx hb dL_law_172 ?_
  refine va_sld hx hb hX hbl hbA hS (vq1 hi hL) dL_law_173 ?_
  refine lv_aload_n hx hb dL_law_174 rfl (lv_at hl 0 rfl) ?_
  refine lv_iload_n hx hb dL_law_175 rfl (lv_at hl 3 rfl) ?_
  refine lv_iconst (v := 2) hx hb dL_law_176 (by decide) ?_
  refine lv_iadd hx hb dL_law_177 ?_
  refine va_sld hx hb hX hbl hbA hS (vq2 hi hL) dL_law_178 ?_
  refine mVB (bl := [wRt Z C TR SN HI Y P R rt, wPd cyC P sg pw, wRd R P rd, wC cyI C u w, wHM cyI cyO HI BB h r v, wC cyI TR tu tw, wC cyI SN su sw, wWy cyI Y g, wM cyI A mm xx]) (bl' := [wRt Z C TR SN HI Y P R rt, wPd cyC P sg pw, wRd R P rd, wC cyI C z6.2.2.2.2.1 z6.2.2.2.2.2, wHM cyI cyO HI BB z6.2.1 z6.2.2.1 z6.2.2.2.1, wC cyI TR tu tw, wC cyI SN su sw, wWy cyI Y g, wM cyI A mm xx]) (WSb := [wRt Z C TR SN HI Y P R rt, wPd cyC P sg pw, wRd R P rd, wC cyI C u w, wHM cyI cyO HI BB h r v, wC cyI TR tu tw, wC cyI SN su sw, wWy cyI Y g]) (WSb' := [wRt Z C TR SN HI Y P R rt, wPd cyC P sg pw, wRd R P rd, wC cyI C z6.2.2.2.2.1 z6.2.2.2.2.2, wHM cyI cyO HI BB z6.2.1 z6.2.2.1 z6.2.2.2.1, wC cyI TR tu tw, wC cyI SN su sw, wWy cyI Y g]) (As := [.int (xs (nI (5 * i) + (1 : Int32)).toNatClampNeg), .int (xs (nI (5 * i) + (2 : Int32)).toNatClampNeg)]) (rest := []) hx hb hml hown hts hl.1 (WS := (List.flatten [wRt Z C TR SN HI Y P R rt, wPd cyC P sg pw, wRd R P rd, wC cyI C u w, wHM cyI cyO HI BB h r v, wC cyI TR tu tw, wC cyI SN su sw, wWy cyI Y g])) (WS' := (List.flatten [wRt Z C TR SN HI Y P R rt, wPd cyC P sg pw, wRd R P rd, wC cyI C z6.2.2.2.2.1 z6.2.2.2.2.2, wHM cyI cyO HI BB z6.2.1 z6.2.2.1 z6.2.2.2.1, wC cyI TR tu tw, wC cyI SN su sw, wWy cyI Y g])) (ro := (some (.int z6.1))) (by rw [hz6]; exact kX6_bears l D cyC cyI cyO Z C TR SN HI Y P R BB rt sg pw rd u w h r v tu tw su sw g (xs (nI (5 * i) + (1 : Int32)).toNatClampNeg) (xs (nI (5 * i) + (2 : Int32)).toNatClampNeg) f_r) bV_X6_bears wml_RL_13 ⟨rfl, rfl⟩ ⟨Nat.le_of_ble_eq_true rfl, Nat.le_of_ble_eq_true rfl, hNC, hNS⟩ [0, 1, 2, 3, 4, 5, 6, 7] rfl rfl rfl rfl rfl rfl rfl hP hD hS hA hK 0 rfl rfl rfl rfl rfl (Nat.le_of_ble_eq_true rfl) dL_law_179 (fun H locs hP hD hS => ?_)
  refine lv_aload_n hx hb dL_law_182 rfl (lv_at hl 2 rfl) ?_
  refine lv_aload_n hx hb dL_law_183 rfl (lv_at hl 0 rfl) ?_
  refine lv_iload_n hx hb dL_law_184 rfl (lv_at hl 3 rfl) ?_
  refine lv_iconst (v := 1) hx hb dL_law_185 (by decide) ?_
  refine lv_iadd hx hb dL_law_186 ?_
  refine va_sld hx hb hX hbl hbA hS (vq1 hi hL) dL_law_187 ?_
  refine lv_aload_n hx hb dL_law_188 rfl (lv_at hl 0 rfl) ?_
  refine lv_iload_n hx hb dL_law_189 rfl (lv_at hl 3 rfl) ?_
  refine lv_iconst (v := 2) hx hb dL_law_190 (by decide) ?_
  refine lv_iadd hx hb dL_law_191 ?_
  refine va_sld hx hb hX hbl hbA hS (vq2 hi hL) dL_law_192 ?_
  refine mVB (bl := [wRt Z C TR SN HI Y P R rt, wPd cyC P sg pw, wRd R P rd, wC cyI C z6.2.2.2.2.1 z6.2.2.2.2.2, wHM cyI cyO HI BB z6.2.1 z6.2.2.1 z6.2.2.2.1, wC cyI TR tu tw, wC cyI SN su sw, wWy cyI Y g, wM cyI A mm xx]) (bl' := [wRt Z C TR SN HI Y P R rt, wPd cyC P sg pw, wRd R P rd, wC cyI C z6.2.2.2.2.1 z6.2.2.2.2.2, wHM cyI cyO HI BB z6.2.1 z6.2.2.1 z6.2.2.2.1, wC cyI TR tu tw, wC cyI SN su sw, wWy cyI Y g, wM cyI A z7.2.1 z7.2.2]) (WSb := [wM cyI A mm xx]) (WSb' := [wM cyI A z7.2.1 z7.2.2]) (As := [.int (xs (nI (5 * i) + (1 : Int32)).toNatClampNeg), .int (xs (nI (5 * i) + (2 : Int32)).toNatClampNeg)]) (rest := [.int z6.1]) hx hb hml hown hts hl.1 (WS := (wM cyI A mm xx)) (WS' := (wM cyI A z7.2.1 z7.2.2)) (ro := (some (.int z7.1))) (by rw [hz7]; exact kX7_bears l D cyC cyI cyO A mm xx (xs (nI (5 * i) + (1 : Int32)).toNatClampNeg) (xs (nI (5 * i) + (2 : Int32)).toNatClampNeg) kn f_kn f_k) bV_X7_bears wml_RL_17 ⟨rfl, rfl⟩ ⟨Nat.le_of_ble_eq_true rfl, Nat.le_of_ble_eq_true rfl, hNC, hNS⟩ [8] (by simp only [List.flatten_cons, List.flatten_nil, List.append_nil]) (by simp only [List.flatten_cons, List.flatten_nil, List.append_nil]) rfl rfl rfl rfl rfl hP hD hS hA hK 0 rfl rfl rfl rfl rfl (Nat.le_of_ble_eq_true rfl) dL_law_193 (fun H locs hP hD hS => ?_)
  refine lv_icmp_eq (tgt := 962) hx hb dL_law_196 (by decide) (fun _ => ?_) (fun q => absurd Q1 q)
  exact kk (rt) (sg) (pw) (rd) (z6.2.2.2.2.1) (z6.2.2.2.2.2) (z6.2.1) (z6.2.2.1) (z6.2.2.2.1) (tu) (tw) (su) (sw) (g) (z7.2.1) (z7.2.2) (kn') (n) (RA_mono Q2 (by omega)) H locs hP hD hS ls (lv_sub hl [0, 1, 2, 3] rfl)
set_option maxHeartbeats 4000000 in
set_option maxRecDepth 100000 in
theorem lc_1 (C0 : lw_At p s m meth c b L xs) (hK : KK D cyC cyI cyO s) (hNC : NC ≤ room_1.cells) (hNS : NS ≤ room_1.slots) (hi : 5 * i + 5 ≤ L) (hL : L ≤ 2560) (rt : Nat → Int32) (sg : Nat → Nat → Int32) (pw rd : Nat → Int32) (u : Nat → Nat → Int32) (w : Nat → Int32) (h : Nat → (Nat → Nat → Int32) × (Nat → Int32)) (r : Nat) (v : Nat → Int32) (tu : Nat → Nat → Int32) (tw : Nat → Int32) (su : Nat → Nat → Int32) (sw : Nat → Int32) (g : Nat → Nat → Int32) (mm : Nat → Nat → Int32) (xx : Nat → Int32) (kn n : Nat) (H0 : RA (128 * i) rt sg pw u w h r v su sw mm xx kn n) (kk : LK p l e s m below meth c b D cyC cyI cyO Z C TR SN HI Y P R A BB NC NS i) : ∀ (H : Heap) (locs : List Loc), va_P D vwCl (List.flatten [wRt Z C TR SN HI Y P R rt, wPd cyC P sg pw, wRd R P rd, wC cyI C u w, wHM cyI cyO HI BB h r v, wC cyI TR tu tw, wC cyI SN su sw, wWy cyI Y g, wM cyI A mm xx]) H → va_D (fun q : Nat => s.heap.size ≤ q) (List.flatten [wRt Z C TR SN HI Y P R rt, wPd cyC P sg pw, wRd R P rd, wC cyI C u w, wHM cyI cyO HI BB h r v, wC cyI TR tu tw, wC cyI SN su sw, wWy cyI Y g, wM cyI A mm xx]) → va_S (fun q : Nat => s.heap.size ≤ q) s.heap H locs → ∀ (ls : Array Slot), lv_has ls 8 [(0, .ref b), (1, .ref (Z 0)), (2, .ref (A 0)), (3, .int (nI (5 * i)))] → W p l e room_1 s m (#[Value.ref b] : Array Value) below meth c H locs NC NS (lw_Z below #[Value.ref b] s) (F0 m 201 ls []) := by
  intro H locs hP hD hS ls hl
  obtain ⟨hx, hb, hr, hml, hown, hts0, hX, hbl, hlocks, hgv⟩ := C0
  have hown : s.vm.findClass RL = some m.cls := hown
  have hts : ∀ w ∈ TB, w.before (#[Value.ref b] : Array Value) s = true := fun w h => hts0 w (List.mem_filter.mp h).1
  have hA : ∀ q : Nat, s.heap.size ≤ q → (fun q : Nat => s.heap.size ≤ q) q := fun _ h => h
  have hbA : ¬ (fun q : Nat => s.heap.size ≤ q) b := Nat.not_le.mpr hbl
  obtain ⟨f_r, f_q, f_ch, f_kn, f_k, f_m3, f_ln, f_l7, f_l6, f_7, f_n⟩ := RA_facts H0
  have f_N : 128 * i < 100000000 := by omega
  have f_N2 : 128 * i < 900000 := by omega
  have f_N3 : 128 * i < 800000 := by omega
  obtain ⟨z6, hz6⟩ : ∃ q, q = (pX6_wind rt sg pw rd u w h r v tu tw su sw g (xs (nI (5 * i) + (1 : Int32)).toNatClampNeg)) := ⟨_, rfl⟩
  obtain ⟨z7, hz7⟩ : ∃ q, q = (pX7_wind mm xx (xs (nI (5 * i) + (1 : Int32)).toNatClampNeg) kn) := ⟨_, rfl⟩
  have Q := q_wind (rt := rt) (sg := sg) (pw := pw) (rd := rd) (u := u) (w := w) (h := h) (r := r) (v := v) (tu := tu) (tw := tw) (su := su) (sw := sw) (g := g) H0 (xs (nI (5 * i) + (1 : Int32)).toNatClampNeg)
  rw [← hz6, ← hz7] at Q
  obtain ⟨Q1, kn', Q2⟩ := Q
  refine lv_aload_n hx hb dL_law_201 rfl (lv_at hl 1 rfl) ?_
  refine lv_aload_n hx hb dL_law_202 rfl (lv_at hl 0 rfl) ?_
  refine lv_iload_n hx hb dL_law_203 rfl (lv_at hl 3 rfl) ?_
  refine lv_iconst (v := 1) hx hb dL_law_204 (by decide) ?_
  refine lv_iadd hx hb dL_law_205 ?_
  refine va_sld hx hb hX hbl hbA hS (vq1 hi hL) dL_law_206 ?_
  refine mVB (bl := [wRt Z C TR SN HI Y P R rt, wPd cyC P sg pw, wRd R P rd, wC cyI C u w, wHM cyI cyO HI BB h r v, wC cyI TR tu tw, wC cyI SN su sw, wWy cyI Y g, wM cyI A mm xx]) (bl' := [wRt Z C TR SN HI Y P R rt, wPd cyC P sg pw, wRd R P rd, wC cyI C z6.2.2.2.2.1 z6.2.2.2.2.2, wHM cyI cyO HI BB z6.2.1 z6.2.2.1 z6.2.2.2.1, wC cyI TR tu tw, wC cyI SN su sw, wWy cyI Y g, wM cyI A mm xx]) (WSb := [wRt Z C TR SN HI Y P R rt, wPd cyC P sg pw, wRd R P rd, wC cyI C u w, wHM cyI cyO HI BB h r v, wC cyI TR tu tw, wC cyI SN su sw, wWy cyI Y g]) (WSb' := [wRt Z C TR SN HI Y P R rt, wPd cyC P sg pw, wRd R P rd, wC cyI C z6.2.2.2.2.1 z6.2.2.2.2.2, wHM cyI cyO HI BB z6.2.1 z6.2.2.1 z6.2.2.2.1, wC cyI TR tu tw, wC cyI SN su sw, wWy cyI Y g]) (As := [.int (xs (nI (5 * i) + (1 : Int32)).toNatClampNeg)]) (rest := []) hx hb hml hown hts hl.1 (WS := (List.flatten [wRt Z C TR SN HI Y P R rt, wPd cyC P sg pw, wRd R P rd, wC cyI C u w, wHM cyI cyO HI BB h r v, wC cyI TR tu tw, wC cyI SN su sw, wWy cyI Y g])) (WS' := (List.flatten [wRt Z C TR SN HI Y P R rt, wPd cyC P sg pw, wRd R P rd, wC cyI C z6.2.2.2.2.1 z6.2.2.2.2.2, wHM cyI cyO HI BB z6.2.1 z6.2.2.1 z6.2.2.2.1, wC cyI TR tu tw, wC cyI SN su sw, wWy cyI Y g])) (ro := (some (.int z6.1))) (by rw [hz6]; exact kX6_wind l D cyC cyI cyO Z C TR SN HI Y P R BB rt sg pw rd u w h r v tu tw su sw g (xs (nI (5 * i) + (1 : Int32)).toNatClampNeg) f_r) bV_X6_wind wml_RL_18 ⟨rfl, rfl⟩ ⟨Nat.le_of_ble_eq_true rfl, Nat.le_of_ble_eq_true rfl, hNC, hNS⟩ [0, 1, 2, 3, 4, 5, 6, 7] rfl rfl rfl rfl rfl rfl rfl hP hD hS hA hK 0 rfl rfl rfl rfl rfl (Nat.le_of_ble_eq_true rfl) dL_law_207 (fun H locs hP hD hS => ?_)
  refine lv_aload_n hx hb dL_law_210 rfl (lv_at hl 2 rfl) ?_
  refine lv_aload_n hx hb dL_law_211 rfl (lv_at hl 0 rfl) ?_
  refine lv_iload_n hx hb dL_law_212 rfl (lv_at hl 3 rfl) ?_
  refine lv_iconst (v := 1) hx hb dL_law_213 (by decide) ?_
  refine lv_iadd hx hb dL_law_214 ?_
  refine va_sld hx hb hX hbl hbA hS (vq1 hi hL) dL_law_215 ?_
  refine mVB (bl := [wRt Z C TR SN HI Y P R rt, wPd cyC P sg pw, wRd R P rd, wC cyI C z6.2.2.2.2.1 z6.2.2.2.2.2, wHM cyI cyO HI BB z6.2.1 z6.2.2.1 z6.2.2.2.1, wC cyI TR tu tw, wC cyI SN su sw, wWy cyI Y g, wM cyI A mm xx]) (bl' := [wRt Z C TR SN HI Y P R rt, wPd cyC P sg pw, wRd R P rd, wC cyI C z6.2.2.2.2.1 z6.2.2.2.2.2, wHM cyI cyO HI BB z6.2.1 z6.2.2.1 z6.2.2.2.1, wC cyI TR tu tw, wC cyI SN su sw, wWy cyI Y g, wM cyI A z7.2.1 z7.2.2]) (WSb := [wM cyI A mm xx]) (WSb' := [wM cyI A z7.2.1 z7.2.2]) (As := [.int (xs (nI (5 * i) + (1 : Int32)).toNatClampNeg)]) (rest := [.int z6.1]) hx hb hml hown hts hl.1 (WS := (wM cyI A mm xx)) (WS' := (wM cyI A z7.2.1 z7.2.2)) (ro := (some (.int z7.1))) (by rw [hz7]; exact kX7_wind l D cyC cyI cyO A mm xx (xs (nI (5 * i) + (1 : Int32)).toNatClampNeg) kn f_kn f_k) bV_X7_wind wml_RL_22 ⟨rfl, rfl⟩ ⟨Nat.le_of_ble_eq_true rfl, Nat.le_of_ble_eq_true rfl, hNC, hNS⟩ [8] (by simp only [List.flatten_cons, List.flatten_nil, List.append_nil]) (by simp only [List.flatten_cons, List.flatten_nil, List.append_nil]) rfl rfl rfl rfl rfl hP hD hS hA hK 0 rfl rfl rfl rfl rfl (Nat.le_of_ble_eq_true rfl) dL_law_216 (fun H locs hP hD hS => ?_)
  refine lv_icmp_eq (tgt := 962) hx hb dL_law_219 (by decide) (fun _ => ?_) (fun q => absurd Q1 q)
  exact kk (rt) (sg) (pw) (rd) (z6.2.2.2.2.1) (z6.2.2.2.2.2) (z6.2.1) (z6.2.2.1) (z6.2.2.2.1) (tu) (tw) (su) (sw) (g) (z7.2.1) (z7.2.2) (kn') (n) (RA_mono Q2 (by omega)) H locs hP hD hS ls (lv_sub hl [0, 1, 2, 3] rfl)
set_option maxHeartbeats 4000000 in
set_option maxRecDepth 100000 in
theorem lc_2 (C0 : lw_At p s m meth c b L xs) (hK : KK D cyC cyI cyO s) (hNC : NC ≤ room_1.cells) (hNS : NS ≤ room_1.slots) (hi : 5 * i + 5 ≤ L) (hL : L ≤ 2560) (rt : Nat → Int32) (sg : Nat → Nat → Int32) (pw rd : Nat → Int32) (u : Nat → Nat → Int32) (w : Nat → Int32) (h : Nat → (Nat → Nat → Int32) × (Nat → Int32)) (r : Nat) (v : Nat → Int32) (tu : Nat → Nat → Int32) (tw : Nat → Int32) (su : Nat → Nat → Int32) (sw : Nat → Int32) (g : Nat → Nat → Int32) (mm : Nat → Nat → Int32) (xx : Nat → Int32) (kn n : Nat) (H0 : RA (128 * i) rt sg pw u w h r v su sw mm xx kn n) (kk : LK p l e s m below meth c b D cyC cyI cyO Z C TR SN HI Y P R A BB NC NS i) : ∀ (H : Heap) (locs : List Loc), va_P D vwCl (List.flatten [wRt Z C TR SN HI Y P R rt, wPd cyC P sg pw, wRd R P rd, wC cyI C u w, wHM cyI cyO HI BB h r v, wC cyI TR tu tw, wC cyI SN su sw, wWy cyI Y g, wM cyI A mm xx]) H → va_D (fun q : Nat => s.heap.size ≤ q) (List.flatten [wRt Z C TR SN HI Y P R rt, wPd cyC P sg pw, wRd R P rd, wC cyI C u w, wHM cyI cyO HI BB h r v, wC cyI TR tu tw, wC cyI SN su sw, wWy cyI Y g, wM cyI A mm xx]) → va_S (fun q : Nat => s.heap.size ≤ q) s.heap H locs → ∀ (ls : Array Slot), lv_has ls 8 [(0, .ref b), (1, .ref (Z 0)), (2, .ref (A 0)), (3, .int (nI (5 * i)))] → W p l e room_1 s m (#[Value.ref b] : Array Value) below meth c H locs NC NS (lw_Z below #[Value.ref b] s) (F0 m 224 ls []) := by
  intro H locs hP hD hS ls hl
  obtain ⟨hx, hb, hr, hml, hown, hts0, hX, hbl, hlocks, hgv⟩ := C0
  have hown : s.vm.findClass RL = some m.cls := hown
  have hts : ∀ w ∈ TB, w.before (#[Value.ref b] : Array Value) s = true := fun w h => hts0 w (List.mem_filter.mp h).1
  have hA : ∀ q : Nat, s.heap.size ≤ q → (fun q : Nat => s.heap.size ≤ q) q := fun _ h => h
  have hbA : ¬ (fun q : Nat => s.heap.size ≤ q) b := Nat.not_le.mpr hbl
  obtain ⟨f_r, f_q, f_ch, f_kn, f_k, f_m3, f_ln, f_l7, f_l6, f_7, f_n⟩ := RA_facts H0
  have f_N : 128 * i < 100000000 := by omega
  have f_N2 : 128 * i < 900000 := by omega
  have f_N3 : 128 * i < 800000 := by omega
  obtain ⟨z6, hz6⟩ : ∃ q, q = (pX6_chimney rt sg pw rd u w h r v tu tw su sw g (xs (nI (5 * i) + (1 : Int32)).toNatClampNeg)) := ⟨_, rfl⟩
  obtain ⟨z7, hz7⟩ : ∃ q, q = (pX7_chimney mm xx (xs (nI (5 * i) + (1 : Int32)).toNatClampNeg) kn) := ⟨_, rfl⟩
  have Q := q_chimney (rt := rt) (sg := sg) (pw := pw) (rd := rd) (u := u) (w := w) (h := h) (r := r) (v := v) (tu := tu) (tw := tw) (su := su) (sw := sw) (g := g) H0 (xs (nI (5 * i) + (1 : Int32)).toNatClampNeg)
  rw [← hz6, ← hz7] at Q
  obtain ⟨Q1, kn', Q2⟩ := Q
  refine lv_aload_n hx hb dL_law_224 rfl (lv_at hl 1 rfl) ?_
  refine lv_aload_n hx hb dL_law_225 rfl (lv_at hl 0 rfl) ?_
  refine lv_iload_n hx hb dL_law_226 rfl (lv_at hl 3 rfl) ?_
  refine lv_iconst (v := 1) hx hb dL_law_227 (by decide) ?_
  refine lv_iadd hx hb dL_law_228 ?_
  refine va_sld hx hb hX hbl hbA hS (vq1 hi hL) dL_law_229 ?_
  refine mVB (bl := [wRt Z C TR SN HI Y P R rt, wPd cyC P sg pw, wRd R P rd, wC cyI C u w, wHM cyI cyO HI BB h r v, wC cyI TR tu tw, wC cyI SN su sw, wWy cyI Y g, wM cyI A mm xx]) (bl' := [wRt Z C TR SN HI Y P R rt, wPd cyC P sg pw, wRd R P rd, wC cyI C z6.2.2.2.2.1 z6.2.2.2.2.2, wHM cyI cyO HI BB z6.2.1 z6.2.2.1 z6.2.2.2.1, wC cyI TR tu tw, wC cyI SN su sw, wWy cyI Y g, wM cyI A mm xx]) (WSb := [wRt Z C TR SN HI Y P R rt, wPd cyC P sg pw, wRd R P rd, wC cyI C u w, wHM cyI cyO HI BB h r v, wC cyI TR tu tw, wC cyI SN su sw, wWy cyI Y g]) (WSb' := [wRt Z C TR SN HI Y P R rt, wPd cyC P sg pw, wRd R P rd, wC cyI C z6.2.2.2.2.1 z6.2.2.2.2.2, wHM cyI cyO HI BB z6.2.1 z6.2.2.1 z6.2.2.2.1, wC cyI TR tu tw, wC cyI SN su sw, wWy cyI Y g]) (As := [.int (xs (nI (5 * i) + (1 : Int32)).toNatClampNeg)]) (rest := []) hx hb hml hown hts hl.1 (WS := (List.flatten [wRt Z C TR SN HI Y P R rt, wPd cyC P sg pw, wRd R P rd, wC cyI C u w, wHM cyI cyO HI BB h r v, wC cyI TR tu tw, wC cyI SN su sw, wWy cyI Y g])) (WS' := (List.flatten [wRt Z C TR SN HI Y P R rt, wPd cyC P sg pw, wRd R P rd, wC cyI C z6.2.2.2.2.1 z6.2.2.2.2.2, wHM cyI cyO HI BB z6.2.1 z6.2.2.1 z6.2.2.2.1, wC cyI TR tu tw, wC cyI SN su sw, wWy cyI Y g])) (ro := (some (.int z6.1))) (by rw [hz6]; exact kX6_chimney l D cyC cyI cyO Z C TR SN HI Y P R BB rt sg pw rd u w h r v tu tw su sw g (xs (nI (5 * i) + (1 : Int32)).toNatClampNeg) f_r f_q) bV_X6_chimney wml_RL_23 ⟨rfl, rfl⟩ ⟨Nat.le_of_ble_eq_true rfl, Nat.le_of_ble_eq_true rfl, hNC, hNS⟩ [0, 1, 2, 3, 4, 5, 6, 7] rfl rfl rfl rfl rfl rfl rfl hP hD hS hA hK 0 rfl rfl rfl rfl rfl (Nat.le_of_ble_eq_true rfl) dL_law_230 (fun H locs hP hD hS => ?_)
  refine lv_aload_n hx hb dL_law_233 rfl (lv_at hl 2 rfl) ?_
  refine lv_aload_n hx hb dL_law_234 rfl (lv_at hl 0 rfl) ?_
  refine lv_iload_n hx hb dL_law_235 rfl (lv_at hl 3 rfl) ?_
  refine lv_iconst (v := 1) hx hb dL_law_236 (by decide) ?_
  refine lv_iadd hx hb dL_law_237 ?_
  refine va_sld hx hb hX hbl hbA hS (vq1 hi hL) dL_law_238 ?_
  refine mVB (bl := [wRt Z C TR SN HI Y P R rt, wPd cyC P sg pw, wRd R P rd, wC cyI C z6.2.2.2.2.1 z6.2.2.2.2.2, wHM cyI cyO HI BB z6.2.1 z6.2.2.1 z6.2.2.2.1, wC cyI TR tu tw, wC cyI SN su sw, wWy cyI Y g, wM cyI A mm xx]) (bl' := [wRt Z C TR SN HI Y P R rt, wPd cyC P sg pw, wRd R P rd, wC cyI C z6.2.2.2.2.1 z6.2.2.2.2.2, wHM cyI cyO HI BB z6.2.1 z6.2.2.1 z6.2.2.2.1, wC cyI TR tu tw, wC cyI SN su sw, wWy cyI Y g, wM cyI A z7.2.1 z7.2.2]) (WSb := [wM cyI A mm xx]) (WSb' := [wM cyI A z7.2.1 z7.2.2]) (As := [.int (xs (nI (5 * i) + (1 : Int32)).toNatClampNeg)]) (rest := [.int z6.1]) hx hb hml hown hts hl.1 (WS := (wM cyI A mm xx)) (WS' := (wM cyI A z7.2.1 z7.2.2)) (ro := (some (.int z7.1))) (by rw [hz7]; exact kX7_chimney l D cyC cyI cyO A mm xx (xs (nI (5 * i) + (1 : Int32)).toNatClampNeg) kn f_kn f_k f_m3) bV_X7_chimney wml_RL_26 ⟨rfl, rfl⟩ ⟨Nat.le_of_ble_eq_true rfl, Nat.le_of_ble_eq_true rfl, hNC, hNS⟩ [8] (by simp only [List.flatten_cons, List.flatten_nil, List.append_nil]) (by simp only [List.flatten_cons, List.flatten_nil, List.append_nil]) rfl rfl rfl rfl rfl hP hD hS hA hK 0 rfl rfl rfl rfl rfl (Nat.le_of_ble_eq_true rfl) dL_law_239 (fun H locs hP hD hS => ?_)
  refine lv_icmp_eq (tgt := 962) hx hb dL_law_242 (by decide) (fun _ => ?_) (fun q => absurd Q1 q)
  exact kk (rt) (sg) (pw) (rd) (z6.2.2.2.2.1) (z6.2.2.2.2.2) (z6.2.1) (z6.2.2.1) (z6.2.2.2.1) (tu) (tw) (su) (sw) (g) (z7.2.1) (z7.2.2) (kn') (n) (RA_mono Q2 (by omega)) H locs hP hD hS ls (lv_sub hl [0, 1, 2, 3] rfl)
set_option maxHeartbeats 4000000 in
set_option maxRecDepth 100000 in
theorem lc_3 (C0 : lw_At p s m meth c b L xs) (hK : KK D cyC cyI cyO s) (hNC : NC ≤ room_1.cells) (hNS : NS ≤ room_1.slots) (hi : 5 * i + 5 ≤ L) (hL : L ≤ 2560) (rt : Nat → Int32) (sg : Nat → Nat → Int32) (pw rd : Nat → Int32) (u : Nat → Nat → Int32) (w : Nat → Int32) (h : Nat → (Nat → Nat → Int32) × (Nat → Int32)) (r : Nat) (v : Nat → Int32) (tu : Nat → Nat → Int32) (tw : Nat → Int32) (su : Nat → Nat → Int32) (sw : Nat → Int32) (g : Nat → Nat → Int32) (mm : Nat → Nat → Int32) (xx : Nat → Int32) (kn n : Nat) (H0 : RA (128 * i) rt sg pw u w h r v su sw mm xx kn n) (kk : LK p l e s m below meth c b D cyC cyI cyO Z C TR SN HI Y P R A BB NC NS i) : ∀ (H : Heap) (locs : List Loc), va_P D vwCl (List.flatten [wRt Z C TR SN HI Y P R rt, wPd cyC P sg pw, wRd R P rd, wC cyI C u w, wHM cyI cyO HI BB h r v, wC cyI TR tu tw, wC cyI SN su sw, wWy cyI Y g, wM cyI A mm xx]) H → va_D (fun q : Nat => s.heap.size ≤ q) (List.flatten [wRt Z C TR SN HI Y P R rt, wPd cyC P sg pw, wRd R P rd, wC cyI C u w, wHM cyI cyO HI BB h r v, wC cyI TR tu tw, wC cyI SN su sw, wWy cyI Y g, wM cyI A mm xx]) → va_S (fun q : Nat => s.heap.size ≤ q) s.heap H locs → ∀ (ls : Array Slot), lv_has ls 8 [(0, .ref b), (1, .ref (Z 0)), (2, .ref (A 0)), (3, .int (nI (5 * i)))] → W p l e room_1 s m (#[Value.ref b] : Array Value) below meth c H locs NC NS (lw_Z below #[Value.ref b] s) (F0 m 247 ls []) := by
  intro H locs hP hD hS ls hl
  obtain ⟨hx, hb, hr, hml, hown, hts0, hX, hbl, hlocks, hgv⟩ := C0
  have hown : s.vm.findClass RL = some m.cls := hown
  have hts : ∀ w ∈ TB, w.before (#[Value.ref b] : Array Value) s = true := fun w h => hts0 w (List.mem_filter.mp h).1
  have hA : ∀ q : Nat, s.heap.size ≤ q → (fun q : Nat => s.heap.size ≤ q) q := fun _ h => h
  have hbA : ¬ (fun q : Nat => s.heap.size ≤ q) b := Nat.not_le.mpr hbl
  obtain ⟨f_r, f_q, f_ch, f_kn, f_k, f_m3, f_ln, f_l7, f_l6, f_7, f_n⟩ := RA_facts H0
  have f_N : 128 * i < 100000000 := by omega
  have f_N2 : 128 * i < 900000 := by omega
  have f_N3 : 128 * i < 800000 := by omega
  obtain ⟨z6, hz6⟩ : ∃ q, q = (pX6_coop rt sg pw rd u w h r v tu tw su sw g (xs (nI (5 * i) + (1 : Int32)).toNatClampNeg)) := ⟨_, rfl⟩
  obtain ⟨z7, hz7⟩ : ∃ q, q = (pX7_coop mm xx (xs (nI (5 * i) + (1 : Int32)).toNatClampNeg) kn) := ⟨_, rfl⟩
  have Q := q_coop (rt := rt) (sg := sg) (pw := pw) (rd := rd) (u := u) (w := w) (h := h) (r := r) (v := v) (tu := tu) (tw := tw) (su := su) (sw := sw) (g := g) H0 (xs (nI (5 * i) + (1 : Int32)).toNatClampNeg)
  rw [← hz6, ← hz7] at Q
  obtain ⟨Q1, kn', Q2⟩ := Q
  refine lv_aload_n hx hb dL_law_247 rfl (lv_at hl 1 rfl) ?_
  refine lv_aload_n hx hb dL_law_248 rfl (lv_at hl 0 rfl) ?_
  refine lv_iload_n hx hb dL_law_249 rfl (lv_at hl 3 rfl) ?_
  refine lv_iconst (v := 1) hx hb dL_law_250 (by decide) ?_
  refine lv_iadd hx hb dL_law_251 ?_
  refine va_sld hx hb hX hbl hbA hS (vq1 hi hL) dL_law_252 ?_
  refine mVB (bl := [wRt Z C TR SN HI Y P R rt, wPd cyC P sg pw, wRd R P rd, wC cyI C u w, wHM cyI cyO HI BB h r v, wC cyI TR tu tw, wC cyI SN su sw, wWy cyI Y g, wM cyI A mm xx]) (bl' := [wRt Z C TR SN HI Y P R rt, wPd cyC P sg pw, wRd R P rd, wC cyI C z6.2.2.2.2.1 z6.2.2.2.2.2, wHM cyI cyO HI BB z6.2.1 z6.2.2.1 z6.2.2.2.1, wC cyI TR tu tw, wC cyI SN su sw, wWy cyI Y g, wM cyI A mm xx]) (WSb := [wRt Z C TR SN HI Y P R rt, wPd cyC P sg pw, wRd R P rd, wC cyI C u w, wHM cyI cyO HI BB h r v, wC cyI TR tu tw, wC cyI SN su sw, wWy cyI Y g]) (WSb' := [wRt Z C TR SN HI Y P R rt, wPd cyC P sg pw, wRd R P rd, wC cyI C z6.2.2.2.2.1 z6.2.2.2.2.2, wHM cyI cyO HI BB z6.2.1 z6.2.2.1 z6.2.2.2.1, wC cyI TR tu tw, wC cyI SN su sw, wWy cyI Y g]) (As := [.int (xs (nI (5 * i) + (1 : Int32)).toNatClampNeg)]) (rest := []) hx hb hml hown hts hl.1 (WS := (List.flatten [wRt Z C TR SN HI Y P R rt, wPd cyC P sg pw, wRd R P rd, wC cyI C u w, wHM cyI cyO HI BB h r v, wC cyI TR tu tw, wC cyI SN su sw, wWy cyI Y g])) (WS' := (List.flatten [wRt Z C TR SN HI Y P R rt, wPd cyC P sg pw, wRd R P rd, wC cyI C z6.2.2.2.2.1 z6.2.2.2.2.2, wHM cyI cyO HI BB z6.2.1 z6.2.2.1 z6.2.2.2.1, wC cyI TR tu tw, wC cyI SN su sw, wWy cyI Y g])) (ro := (some (.int z6.1))) (by rw [hz6]; exact kX6_coop l D cyC cyI cyO Z C TR SN HI Y P R BB rt sg pw rd u w h r v tu tw su sw g (xs (nI (5 * i) + (1 : Int32)).toNatClampNeg) f_r) bV_X6_coop wml_RL_27 ⟨rfl, rfl⟩ ⟨Nat.le_of_ble_eq_true rfl, Nat.le_of_ble_eq_true rfl, hNC, hNS⟩ [0, 1, 2, 3, 4, 5, 6, 7] rfl rfl rfl rfl rfl rfl rfl hP hD hS hA hK 0 rfl rfl rfl rfl rfl (Nat.le_of_ble_eq_true rfl) dL_law_253 (fun H locs hP hD hS => ?_)
  refine lv_aload_n hx hb dL_law_256 rfl (lv_at hl 2 rfl) ?_
  refine lv_aload_n hx hb dL_law_257 rfl (lv_at hl 0 rfl) ?_
  refine lv_iload_n hx hb dL_law_258 rfl (lv_at hl 3 rfl) ?_
  refine lv_iconst (v := 1) hx hb dL_law_259 (by decide) ?_
  refine lv_iadd hx hb dL_law_260 ?_
  refine va_sld hx hb hX hbl hbA hS (vq1 hi hL) dL_law_261 ?_
  refine mVB (bl := [wRt Z C TR SN HI Y P R rt, wPd cyC P sg pw, wRd R P rd, wC cyI C z6.2.2.2.2.1 z6.2.2.2.2.2, wHM cyI cyO HI BB z6.2.1 z6.2.2.1 z6.2.2.2.1, wC cyI TR tu tw, wC cyI SN su sw, wWy cyI Y g, wM cyI A mm xx]) (bl' := [wRt Z C TR SN HI Y P R rt, wPd cyC P sg pw, wRd R P rd, wC cyI C z6.2.2.2.2.1 z6.2.2.2.2.2, wHM cyI cyO HI BB z6.2.1 z6.2.2.1 z6.2.2.2.1, wC cyI TR tu tw, wC cyI SN su sw, wWy cyI Y g, wM cyI A z7.2.1 z7.2.2]) (WSb := [wM cyI A mm xx]) (WSb' := [wM cyI A z7.2.1 z7.2.2]) (As := [.int (xs (nI (5 * i) + (1 : Int32)).toNatClampNeg)]) (rest := [.int z6.1]) hx hb hml hown hts hl.1 (WS := (wM cyI A mm xx)) (WS' := (wM cyI A z7.2.1 z7.2.2)) (ro := (some (.int z7.1))) (by rw [hz7]; exact kX7_coop l D cyC cyI cyO A mm xx (xs (nI (5 * i) + (1 : Int32)).toNatClampNeg) kn f_kn f_k) bV_X7_coop wml_RL_30 ⟨rfl, rfl⟩ ⟨Nat.le_of_ble_eq_true rfl, Nat.le_of_ble_eq_true rfl, hNC, hNS⟩ [8] (by simp only [List.flatten_cons, List.flatten_nil, List.append_nil]) (by simp only [List.flatten_cons, List.flatten_nil, List.append_nil]) rfl rfl rfl rfl rfl hP hD hS hA hK 0 rfl rfl rfl rfl rfl (Nat.le_of_ble_eq_true rfl) dL_law_262 (fun H locs hP hD hS => ?_)
  refine lv_icmp_eq (tgt := 962) hx hb dL_law_265 (by decide) (fun _ => ?_) (fun q => absurd Q1 q)
  exact kk (rt) (sg) (pw) (rd) (z6.2.2.2.2.1) (z6.2.2.2.2.2) (z6.2.1) (z6.2.2.1) (z6.2.2.2.1) (tu) (tw) (su) (sw) (g) (z7.2.1) (z7.2.2) (kn') (n) (RA_mono Q2 (by omega)) H locs hP hD hS ls (lv_sub hl [0, 1, 2, 3] rfl)
set_option maxHeartbeats 4000000 in
set_option maxRecDepth 100000 in
theorem lc_4 (C0 : lw_At p s m meth c b L xs) (hK : KK D cyC cyI cyO s) (hNC : NC ≤ room_1.cells) (hNS : NS ≤ room_1.slots) (hi : 5 * i + 5 ≤ L) (hL : L ≤ 2560) (rt : Nat → Int32) (sg : Nat → Nat → Int32) (pw rd : Nat → Int32) (u : Nat → Nat → Int32) (w : Nat → Int32) (h : Nat → (Nat → Nat → Int32) × (Nat → Int32)) (r : Nat) (v : Nat → Int32) (tu : Nat → Nat → Int32) (tw : Nat → Int32) (su : Nat → Nat → Int32) (sw : Nat → Int32) (g : Nat → Nat → Int32) (mm : Nat → Nat → Int32) (xx : Nat → Int32) (kn n : Nat) (H0 : RA (128 * i) rt sg pw u w h r v su sw mm xx kn n) (kk : LK p l e s m below meth c b D cyC cyI cyO Z C TR SN HI Y P R A BB NC NS i) : ∀ (H : Heap) (locs : List Loc), va_P D vwCl (List.flatten [wRt Z C TR SN HI Y P R rt, wPd cyC P sg pw, wRd R P rd, wC cyI C u w, wHM cyI cyO HI BB h r v, wC cyI TR tu tw, wC cyI SN su sw, wWy cyI Y g, wM cyI A mm xx]) H → va_D (fun q : Nat => s.heap.size ≤ q) (List.flatten [wRt Z C TR SN HI Y P R rt, wPd cyC P sg pw, wRd R P rd, wC cyI C u w, wHM cyI cyO HI BB h r v, wC cyI TR tu tw, wC cyI SN su sw, wWy cyI Y g, wM cyI A mm xx]) → va_S (fun q : Nat => s.heap.size ≤ q) s.heap H locs → ∀ (ls : Array Slot), lv_has ls 8 [(0, .ref b), (1, .ref (Z 0)), (2, .ref (A 0)), (3, .int (nI (5 * i)))] → W p l e room_1 s m (#[Value.ref b] : Array Value) below meth c H locs NC NS (lw_Z below #[Value.ref b] s) (F0 m 270 ls []) := by
  intro H locs hP hD hS ls hl
  obtain ⟨hx, hb, hr, hml, hown, hts0, hX, hbl, hlocks, hgv⟩ := C0
  have hown : s.vm.findClass RL = some m.cls := hown
  have hts : ∀ w ∈ TB, w.before (#[Value.ref b] : Array Value) s = true := fun w h => hts0 w (List.mem_filter.mp h).1
  have hA : ∀ q : Nat, s.heap.size ≤ q → (fun q : Nat => s.heap.size ≤ q) q := fun _ h => h
  have hbA : ¬ (fun q : Nat => s.heap.size ≤ q) b := Nat.not_le.mpr hbl
  obtain ⟨f_r, f_q, f_ch, f_kn, f_k, f_m3, f_ln, f_l7, f_l6, f_7, f_n⟩ := RA_facts H0
  have f_N : 128 * i < 100000000 := by omega
  have f_N2 : 128 * i < 900000 := by omega
  have f_N3 : 128 * i < 800000 := by omega
  by_cases c0 : (xs (nI (5 * i) + (4 : Int32)).toNatClampNeg) = 0
  · obtain ⟨z6, hz6⟩ : ∃ q, q = (pX6_owner rt sg pw rd u w h r v tu tw su sw g (xs (nI (5 * i) + (1 : Int32)).toNatClampNeg) (xs (nI (5 * i) + (2 : Int32)).toNatClampNeg) (xs (nI (5 * i) + (3 : Int32)).toNatClampNeg) 0) := ⟨_, rfl⟩
    obtain ⟨z7, hz7⟩ : ∃ q, q = (pX7_owner mm xx (xs (nI (5 * i) + (1 : Int32)).toNatClampNeg) (xs (nI (5 * i) + (2 : Int32)).toNatClampNeg) (xs (nI (5 * i) + (3 : Int32)).toNatClampNeg) 0 kn) := ⟨_, rfl⟩
    have Q := q_owner (rt := rt) (sg := sg) (pw := pw) (rd := rd) (u := u) (w := w) (h := h) (r := r) (v := v) (tu := tu) (tw := tw) (su := su) (sw := sw) (g := g) H0 (xs (nI (5 * i) + (1 : Int32)).toNatClampNeg) (xs (nI (5 * i) + (2 : Int32)).toNatClampNeg) (xs (nI (5 * i) + (3 : Int32)).toNatClampNeg) 0
    rw [← hz6, ← hz7] at Q
    obtain ⟨Q1, kn', Q2⟩ := Q
    refine lv_aload_n hx hb dL_law_270 rfl (lv_at hl 1 rfl) ?_
    refine lv_aload_n hx hb dL_law_271 rfl (lv_at hl 0 rfl) ?_
    refine lv_iload_n hx hb dL_law_272 rfl (lv_at hl 3 rfl) ?_
    refine lv_iconst (v := 1) hx hb dL_law_273 (by decide) ?_
    refine lv_iadd hx hb dL_law_274 ?_
    refine va_sld hx hb hX hbl hbA hS (vq1 hi hL) dL_law_275 ?_
    refine lv_aload_n hx hb dL_law_276 rfl (lv_at hl 0 rfl) ?_
    refine lv_iload_n hx hb dL_law_277 rfl (lv_at hl 3 rfl) ?_
    refine lv_iconst (v := 2) hx hb dL_law_278 (by decide) ?_
    refine lv_iadd hx hb dL_law_279 ?_
    refine va_sld hx hb hX hbl hbA hS (vq2 hi hL) dL_law_280 ?_
    refine lv_aload_n hx hb dL_law_281 rfl (lv_at hl 0 rfl) ?_
    refine lv_iload_n hx hb dL_law_282 rfl (lv_at hl 3 rfl) ?_
    refine lv_iconst (v := 3) hx hb dL_law_283 (by decide) ?_
    refine lv_iadd hx hb dL_law_284 ?_
    refine va_sld hx hb hX hbl hbA hS (vq3 hi hL) dL_law_285 ?_
    refine lv_aload_n hx hb dL_law_286 rfl (lv_at hl 0 rfl) ?_
    refine lv_iload_n hx hb dL_law_287 rfl (lv_at hl 3 rfl) ?_
    refine lv_iconst (v := 4) hx hb dL_law_288 (by decide) ?_
    refine lv_iadd hx hb dL_law_289 ?_
    refine va_sld hx hb hX hbl hbA hS (vq4 hi hL) dL_law_290 ?_
    refine lv_if_eq (tgt := 298) hx hb dL_law_291 (by decide) (fun _ => ?_) (fun q => absurd c0 q)
    refine lv_iconst (v := 0) hx hb dL_law_298 (by decide) ?_
    refine mVB (bl := [wRt Z C TR SN HI Y P R rt, wPd cyC P sg pw, wRd R P rd, wC cyI C u w, wHM cyI cyO HI BB h r v, wC cyI TR tu tw, wC cyI SN su sw, wWy cyI Y g, wM cyI A mm xx]) (bl' := [wRt Z C TR SN HI Y P R rt, wPd cyC P sg pw, wRd R P rd, wC cyI C z6.2.2.2.2.1 z6.2.2.2.2.2, wHM cyI cyO HI BB z6.2.1 z6.2.2.1 z6.2.2.2.1, wC cyI TR tu tw, wC cyI SN su sw, wWy cyI Y g, wM cyI A mm xx]) (WSb := [wRt Z C TR SN HI Y P R rt, wPd cyC P sg pw, wRd R P rd, wC cyI C u w, wHM cyI cyO HI BB h r v, wC cyI TR tu tw, wC cyI SN su sw, wWy cyI Y g]) (WSb' := [wRt Z C TR SN HI Y P R rt, wPd cyC P sg pw, wRd R P rd, wC cyI C z6.2.2.2.2.1 z6.2.2.2.2.2, wHM cyI cyO HI BB z6.2.1 z6.2.2.1 z6.2.2.2.1, wC cyI TR tu tw, wC cyI SN su sw, wWy cyI Y g]) (As := [.int (xs (nI (5 * i) + (1 : Int32)).toNatClampNeg), .int (xs (nI (5 * i) + (2 : Int32)).toNatClampNeg), .int (xs (nI (5 * i) + (3 : Int32)).toNatClampNeg), .int 0]) (rest := []) hx hb hml hown hts hl.1 (WS := (List.flatten [wRt Z C TR SN HI Y P R rt, wPd cyC P sg pw, wRd R P rd, wC cyI C u w, wHM cyI cyO HI BB h r v, wC cyI TR tu tw, wC cyI SN su sw, wWy cyI Y g])) (WS' := (List.flatten [wRt Z C TR SN HI Y P R rt, wPd cyC P sg pw, wRd R P rd, wC cyI C z6.2.2.2.2.1 z6.2.2.2.2.2, wHM cyI cyO HI BB z6.2.1 z6.2.2.1 z6.2.2.2.1, wC cyI TR tu tw, wC cyI SN su sw, wWy cyI Y g])) (ro := (some (.int z6.1))) (by rw [hz6]; exact kX6_owner l D cyC cyI cyO Z C TR SN HI Y P R BB rt sg pw rd u w h r v tu tw su sw g (xs (nI (5 * i) + (1 : Int32)).toNatClampNeg) (xs (nI (5 * i) + (2 : Int32)).toNatClampNeg) (xs (nI (5 * i) + (3 : Int32)).toNatClampNeg) 0 f_r) bV_X6_owner wml_RL_31 ⟨rfl, rfl⟩ ⟨Nat.le_of_ble_eq_true rfl, Nat.le_of_ble_eq_true rfl, hNC, hNS⟩ [0, 1, 2, 3, 4, 5, 6, 7] rfl rfl rfl rfl rfl rfl rfl hP hD hS hA hK 0 rfl rfl rfl rfl rfl (Nat.le_of_ble_eq_true rfl) dL_law_299 (fun H locs hP hD hS => ?_)
    refine lv_aload_n hx hb dL_law_302 rfl (lv_at hl 2 rfl) ?_
    refine lv_aload_n hx hb dL_law_303 rfl (lv_at hl 0 rfl) ?_
    refine lv_iload_n hx hb dL_law_304 rfl (lv_at hl 3 rfl) ?_
    refine lv_iconst (v := 1) hx hb dL_law_305 (by decide) ?_
    refine lv_iadd hx hb dL_law_306 ?_
    refine va_sld hx hb hX hbl hbA hS (vq1 hi hL) dL_law_307 ?_
    refine lv_aload_n hx hb dL_law_308 rfl (lv_at hl 0 rfl) ?_
    refine lv_iload_n hx hb dL_law_309 rfl (lv_at hl 3 rfl) ?_
    refine lv_iconst (v := 2) hx hb dL_law_310 (by decide) ?_
    refine lv_iadd hx hb dL_law_311 ?_
    refine va_sld hx hb hX hbl hbA hS (vq2 hi hL) dL_law_312 ?_
    refine lv_aload_n hx hb dL_law_313 rfl (lv_at hl 0 rfl) ?_
    refine lv_iload_n hx hb dL_law_314 rfl (lv_at hl 3 rfl) ?_
    refine lv_iconst (v := 3) hx hb dL_law_315 (by decide) ?_
    refine lv_iadd hx hb dL_law_316 ?_
    refine va_sld hx hb hX hbl hbA hS (vq3 hi hL) dL_law_317 ?_
    refine lv_aload_n hx hb dL_law_318 rfl (lv_at hl 0 rfl) ?_
    refine lv_iload_n hx hb dL_law_319 rfl (lv_at hl 3 rfl) ?_
    refine lv_iconst (v := 4) hx hb dL_law_320 (by decide) ?_
    refine lv_iadd hx hb dL_law_321 ?_
    refine va_sld hx hb hX hbl hbA hS (vq4 hi hL) dL_law_322 ?_
    refine lv_if_eq (tgt := 330) hx hb dL_law_323 (by decide) (fun _ => ?_) (fun q => absurd c0 q)
    refine lv_iconst (v := 0) hx hb dL_law_330 (by decide) ?_
    refine mVB (bl := [wRt Z C TR SN HI Y P R rt, wPd cyC P sg pw, wRd R P rd, wC cyI C z6.2.2.2.2.1 z6.2.2.2.2.2, wHM cyI cyO HI BB z6.2.1 z6.2.2.1 z6.2.2.2.1, wC cyI TR tu tw, wC cyI SN su sw, wWy cyI Y g, wM cyI A mm xx]) (bl' := [wRt Z C TR SN HI Y P R rt, wPd cyC P sg pw, wRd R P rd, wC cyI C z6.2.2.2.2.1 z6.2.2.2.2.2, wHM cyI cyO HI BB z6.2.1 z6.2.2.1 z6.2.2.2.1, wC cyI TR tu tw, wC cyI SN su sw, wWy cyI Y g, wM cyI A z7.2.1 z7.2.2]) (WSb := [wM cyI A mm xx]) (WSb' := [wM cyI A z7.2.1 z7.2.2]) (As := [.int (xs (nI (5 * i) + (1 : Int32)).toNatClampNeg), .int (xs (nI (5 * i) + (2 : Int32)).toNatClampNeg), .int (xs (nI (5 * i) + (3 : Int32)).toNatClampNeg), .int 0]) (rest := [.int z6.1]) hx hb hml hown hts hl.1 (WS := (wM cyI A mm xx)) (WS' := (wM cyI A z7.2.1 z7.2.2)) (ro := (some (.int z7.1))) (by rw [hz7]; exact kX7_owner l D cyC cyI cyO A mm xx (xs (nI (5 * i) + (1 : Int32)).toNatClampNeg) (xs (nI (5 * i) + (2 : Int32)).toNatClampNeg) (xs (nI (5 * i) + (3 : Int32)).toNatClampNeg) 0 kn f_kn f_k) bV_X7_owner wml_RL_35 ⟨rfl, rfl⟩ ⟨Nat.le_of_ble_eq_true rfl, Nat.le_of_ble_eq_true rfl, hNC, hNS⟩ [8] (by simp only [List.flatten_cons, List.flatten_nil, List.append_nil]) (by simp only [List.flatten_cons, List.flatten_nil, List.append_nil]) rfl rfl rfl rfl rfl hP hD hS hA hK 0 rfl rfl rfl rfl rfl (Nat.le_of_ble_eq_true rfl) dL_law_331 (fun H locs hP hD hS => ?_)
    refine lv_icmp_eq (tgt := 962) hx hb dL_law_334 (by decide) (fun _ => ?_) (fun q => absurd Q1 q)
    exact kk (rt) (sg) (pw) (rd) (z6.2.2.2.2.1) (z6.2.2.2.2.2) (z6.2.1) (z6.2.2.1) (z6.2.2.2.1) (tu) (tw) (su) (sw) (g) (z7.2.1) (z7.2.2) (kn') (n) (RA_mono Q2 (by omega)) H locs hP hD hS ls (lv_sub hl [0, 1, 2, 3] rfl)
  · obtain ⟨z6, hz6⟩ : ∃ q, q = (pX6_owner rt sg pw rd u w h r v tu tw su sw g (xs (nI (5 * i) + (1 : Int32)).toNatClampNeg) (xs (nI (5 * i) + (2 : Int32)).toNatClampNeg) (xs (nI (5 * i) + (3 : Int32)).toNatClampNeg) 1) := ⟨_, rfl⟩
    obtain ⟨z7, hz7⟩ : ∃ q, q = (pX7_owner mm xx (xs (nI (5 * i) + (1 : Int32)).toNatClampNeg) (xs (nI (5 * i) + (2 : Int32)).toNatClampNeg) (xs (nI (5 * i) + (3 : Int32)).toNatClampNeg) 1 kn) := ⟨_, rfl⟩
    have Q := q_owner (rt := rt) (sg := sg) (pw := pw) (rd := rd) (u := u) (w := w) (h := h) (r := r) (v := v) (tu := tu) (tw := tw) (su := su) (sw := sw) (g := g) H0 (xs (nI (5 * i) + (1 : Int32)).toNatClampNeg) (xs (nI (5 * i) + (2 : Int32)).toNatClampNeg) (xs (nI (5 * i) + (3 : Int32)).toNatClampNeg) 1
    rw [← hz6, ← hz7] at Q
    obtain ⟨Q1, kn', Q2⟩ := Q
    refine lv_aload_n hx hb dL_law_270 rfl (lv_at hl 1 rfl) ?_
    refine lv_aload_n hx hb dL_law_271 rfl (lv_at hl 0 rfl) ?_
    refine lv_iload_n hx hb dL_law_272 rfl (lv_at hl 3 rfl) ?_
    refine lv_iconst (v := 1) hx hb dL_law_273 (by decide) ?_
    refine lv_iadd hx hb dL_law_274 ?_
    refine va_sld hx hb hX hbl hbA hS (vq1 hi hL) dL_law_275 ?_
    refine lv_aload_n hx hb dL_law_276 rfl (lv_at hl 0 rfl) ?_
    refine lv_iload_n hx hb dL_law_277 rfl (lv_at hl 3 rfl) ?_
    refine lv_iconst (v := 2) hx hb dL_law_278 (by decide) ?_
    refine lv_iadd hx hb dL_law_279 ?_
    refine va_sld hx hb hX hbl hbA hS (vq2 hi hL) dL_law_280 ?_
    refine lv_aload_n hx hb dL_law_281 rfl (lv_at hl 0 rfl) ?_
    refine lv_iload_n hx hb dL_law_282 rfl (lv_at hl 3 rfl) ?_
    refine lv_iconst (v := 3) hx hb dL_law_283 (by decide) ?_
    refine lv_iadd hx hb dL_law_284 ?_
    refine va_sld hx hb hX hbl hbA hS (vq3 hi hL) dL_law_285 ?_
    refine lv_aload_n hx hb dL_law_286 rfl (lv_at hl 0 rfl) ?_
    refine lv_iload_n hx hb dL_law_287 rfl (lv_at hl 3 rfl) ?_
    refine lv_iconst (v := 4) hx hb dL_law_288 (by decide) ?_
    refine lv_iadd hx hb dL_law_289 ?_
    refine va_sld hx hb hX hbl hbA hS (vq4 hi hL) dL_law_290 ?_
    refine lv_if_eq (tgt := 298) hx hb dL_law_291 (by decide) (fun q => absurd q c0) (fun _ => ?_)
    refine lv_iconst (v := 1) hx hb dL_law_294 (by decide) ?_
    refine lv_goto (tgt := 299) hx hb dL_law_295 (by decide) ?_
    refine mVB (bl := [wRt Z C TR SN HI Y P R rt, wPd cyC P sg pw, wRd R P rd, wC cyI C u w, wHM cyI cyO HI BB h r v, wC cyI TR tu tw, wC cyI SN su sw, wWy cyI Y g, wM cyI A mm xx]) (bl' := [wRt Z C TR SN HI Y P R rt, wPd cyC P sg pw, wRd R P rd, wC cyI C z6.2.2.2.2.1 z6.2.2.2.2.2, wHM cyI cyO HI BB z6.2.1 z6.2.2.1 z6.2.2.2.1, wC cyI TR tu tw, wC cyI SN su sw, wWy cyI Y g, wM cyI A mm xx]) (WSb := [wRt Z C TR SN HI Y P R rt, wPd cyC P sg pw, wRd R P rd, wC cyI C u w, wHM cyI cyO HI BB h r v, wC cyI TR tu tw, wC cyI SN su sw, wWy cyI Y g]) (WSb' := [wRt Z C TR SN HI Y P R rt, wPd cyC P sg pw, wRd R P rd, wC cyI C z6.2.2.2.2.1 z6.2.2.2.2.2, wHM cyI cyO HI BB z6.2.1 z6.2.2.1 z6.2.2.2.1, wC cyI TR tu tw, wC cyI SN su sw, wWy cyI Y g]) (As := [.int (xs (nI (5 * i) + (1 : Int32)).toNatClampNeg), .int (xs (nI (5 * i) + (2 : Int32)).toNatClampNeg), .int (xs (nI (5 * i) + (3 : Int32)).toNatClampNeg), .int 1]) (rest := []) hx hb hml hown hts hl.1 (WS := (List.flatten [wRt Z C TR SN HI Y P R rt, wPd cyC P sg pw, wRd R P rd, wC cyI C u w, wHM cyI cyO HI BB h r v, wC cyI TR tu tw, wC cyI SN su sw, wWy cyI Y g])) (WS' := (List.flatten [wRt Z C TR SN HI Y P R rt, wPd cyC P sg pw, wRd R P rd, wC cyI C z6.2.2.2.2.1 z6.2.2.2.2.2, wHM cyI cyO HI BB z6.2.1 z6.2.2.1 z6.2.2.2.1, wC cyI TR tu tw, wC cyI SN su sw, wWy cyI Y g])) (ro := (some (.int z6.1))) (by rw [hz6]; exact kX6_owner l D cyC cyI cyO Z C TR SN HI Y P R BB rt sg pw rd u w h r v tu tw su sw g (xs (nI (5 * i) + (1 : Int32)).toNatClampNeg) (xs (nI (5 * i) + (2 : Int32)).toNatClampNeg) (xs (nI (5 * i) + (3 : Int32)).toNatClampNeg) 1 f_r) bV_X6_owner wml_RL_31 ⟨rfl, rfl⟩ ⟨Nat.le_of_ble_eq_true rfl, Nat.le_of_ble_eq_true rfl, hNC, hNS⟩ [0, 1, 2, 3, 4, 5, 6, 7] rfl rfl rfl rfl rfl rfl rfl hP hD hS hA hK 0 rfl rfl rfl rfl rfl (Nat.le_of_ble_eq_true rfl) dL_law_299 (fun H locs hP hD hS => ?_)
    refine lv_aload_n hx hb dL_law_302 rfl (lv_at hl 2 rfl) ?_
    refine lv_aload_n hx hb dL_law_303 rfl (lv_at hl 0 rfl) ?_
    refine lv_iload_n hx hb dL_law_304 rfl (lv_at hl 3 rfl) ?_
    refine lv_iconst (v := 1) hx hb dL_law_305 (by decide) ?_
    refine lv_iadd hx hb dL_law_306 ?_
    refine va_sld hx hb hX hbl hbA hS (vq1 hi hL) dL_law_307 ?_
    refine lv_aload_n hx hb dL_law_308 rfl (lv_at hl 0 rfl) ?_
    refine lv_iload_n hx hb dL_law_309 rfl (lv_at hl 3 rfl) ?_
    refine lv_iconst (v := 2) hx hb dL_law_310 (by decide) ?_
    refine lv_iadd hx hb dL_law_311 ?_
    refine va_sld hx hb hX hbl hbA hS (vq2 hi hL) dL_law_312 ?_
    refine lv_aload_n hx hb dL_law_313 rfl (lv_at hl 0 rfl) ?_
    refine lv_iload_n hx hb dL_law_314 rfl (lv_at hl 3 rfl) ?_
    refine lv_iconst (v := 3) hx hb dL_law_315 (by decide) ?_
    refine lv_iadd hx hb dL_law_316 ?_
    refine va_sld hx hb hX hbl hbA hS (vq3 hi hL) dL_law_317 ?_
    refine lv_aload_n hx hb dL_law_318 rfl (lv_at hl 0 rfl) ?_
    refine lv_iload_n hx hb dL_law_319 rfl (lv_at hl 3 rfl) ?_
    refine lv_iconst (v := 4) hx hb dL_law_320 (by decide) ?_
    refine lv_iadd hx hb dL_law_321 ?_
    refine va_sld hx hb hX hbl hbA hS (vq4 hi hL) dL_law_322 ?_
    refine lv_if_eq (tgt := 330) hx hb dL_law_323 (by decide) (fun q => absurd q c0) (fun _ => ?_)
    refine lv_iconst (v := 1) hx hb dL_law_326 (by decide) ?_
    refine lv_goto (tgt := 331) hx hb dL_law_327 (by decide) ?_
    refine mVB (bl := [wRt Z C TR SN HI Y P R rt, wPd cyC P sg pw, wRd R P rd, wC cyI C z6.2.2.2.2.1 z6.2.2.2.2.2, wHM cyI cyO HI BB z6.2.1 z6.2.2.1 z6.2.2.2.1, wC cyI TR tu tw, wC cyI SN su sw, wWy cyI Y g, wM cyI A mm xx]) (bl' := [wRt Z C TR SN HI Y P R rt, wPd cyC P sg pw, wRd R P rd, wC cyI C z6.2.2.2.2.1 z6.2.2.2.2.2, wHM cyI cyO HI BB z6.2.1 z6.2.2.1 z6.2.2.2.1, wC cyI TR tu tw, wC cyI SN su sw, wWy cyI Y g, wM cyI A z7.2.1 z7.2.2]) (WSb := [wM cyI A mm xx]) (WSb' := [wM cyI A z7.2.1 z7.2.2]) (As := [.int (xs (nI (5 * i) + (1 : Int32)).toNatClampNeg), .int (xs (nI (5 * i) + (2 : Int32)).toNatClampNeg), .int (xs (nI (5 * i) + (3 : Int32)).toNatClampNeg), .int 1]) (rest := [.int z6.1]) hx hb hml hown hts hl.1 (WS := (wM cyI A mm xx)) (WS' := (wM cyI A z7.2.1 z7.2.2)) (ro := (some (.int z7.1))) (by rw [hz7]; exact kX7_owner l D cyC cyI cyO A mm xx (xs (nI (5 * i) + (1 : Int32)).toNatClampNeg) (xs (nI (5 * i) + (2 : Int32)).toNatClampNeg) (xs (nI (5 * i) + (3 : Int32)).toNatClampNeg) 1 kn f_kn f_k) bV_X7_owner wml_RL_35 ⟨rfl, rfl⟩ ⟨Nat.le_of_ble_eq_true rfl, Nat.le_of_ble_eq_true rfl, hNC, hNS⟩ [8] (by simp only [List.flatten_cons, List.flatten_nil, List.append_nil]) (by simp only [List.flatten_cons, List.flatten_nil, List.append_nil]) rfl rfl rfl rfl rfl hP hD hS hA hK 0 rfl rfl rfl rfl rfl (Nat.le_of_ble_eq_true rfl) dL_law_331 (fun H locs hP hD hS => ?_)
    refine lv_icmp_eq (tgt := 962) hx hb dL_law_334 (by decide) (fun _ => ?_) (fun q => absurd Q1 q)
    exact kk (rt) (sg) (pw) (rd) (z6.2.2.2.2.1) (z6.2.2.2.2.2) (z6.2.1) (z6.2.2.1) (z6.2.2.2.1) (tu) (tw) (su) (sw) (g) (z7.2.1) (z7.2.2) (kn') (n) (RA_mono Q2 (by omega)) H locs hP hD hS ls (lv_sub hl [0, 1, 2, 3] rfl)
set_option maxHeartbeats 4000000 in
set_option maxRecDepth 100000 in
theorem lc_5 (C0 : lw_At p s m meth c b L xs) (hK : KK D cyC cyI cyO s) (hNC : NC ≤ room_1.cells) (hNS : NS ≤ room_1.slots) (hi : 5 * i + 5 ≤ L) (hL : L ≤ 2560) (rt : Nat → Int32) (sg : Nat → Nat → Int32) (pw rd : Nat → Int32) (u : Nat → Nat → Int32) (w : Nat → Int32) (h : Nat → (Nat → Nat → Int32) × (Nat → Int32)) (r : Nat) (v : Nat → Int32) (tu : Nat → Nat → Int32) (tw : Nat → Int32) (su : Nat → Nat → Int32) (sw : Nat → Int32) (g : Nat → Nat → Int32) (mm : Nat → Nat → Int32) (xx : Nat → Int32) (kn n : Nat) (H0 : RA (128 * i) rt sg pw u w h r v su sw mm xx kn n) (kk : LK p l e s m below meth c b D cyC cyI cyO Z C TR SN HI Y P R A BB NC NS i) : ∀ (H : Heap) (locs : List Loc), va_P D vwCl (List.flatten [wRt Z C TR SN HI Y P R rt, wPd cyC P sg pw, wRd R P rd, wC cyI C u w, wHM cyI cyO HI BB h r v, wC cyI TR tu tw, wC cyI SN su sw, wWy cyI Y g, wM cyI A mm xx]) H → va_D (fun q : Nat => s.heap.size ≤ q) (List.flatten [wRt Z C TR SN HI Y P R rt, wPd cyC P sg pw, wRd R P rd, wC cyI C u w, wHM cyI cyO HI BB h r v, wC cyI TR tu tw, wC cyI SN su sw, wWy cyI Y g, wM cyI A mm xx]) → va_S (fun q : Nat => s.heap.size ≤ q) s.heap H locs → ∀ (ls : Array Slot), lv_has ls 8 [(0, .ref b), (1, .ref (Z 0)), (2, .ref (A 0)), (3, .int (nI (5 * i)))] → W p l e room_1 s m (#[Value.ref b] : Array Value) below meth c H locs NC NS (lw_Z below #[Value.ref b] s) (F0 m 339 ls []) := by
  intro H locs hP hD hS ls hl
  obtain ⟨hx, hb, hr, hml, hown, hts0, hX, hbl, hlocks, hgv⟩ := C0
  have hown : s.vm.findClass RL = some m.cls := hown
  have hts : ∀ w ∈ TB, w.before (#[Value.ref b] : Array Value) s = true := fun w h => hts0 w (List.mem_filter.mp h).1
  have hA : ∀ q : Nat, s.heap.size ≤ q → (fun q : Nat => s.heap.size ≤ q) q := fun _ h => h
  have hbA : ¬ (fun q : Nat => s.heap.size ≤ q) b := Nat.not_le.mpr hbl
  obtain ⟨f_r, f_q, f_ch, f_kn, f_k, f_m3, f_ln, f_l7, f_l6, f_7, f_n⟩ := RA_facts H0
  have f_N : 128 * i < 100000000 := by omega
  have f_N2 : 128 * i < 900000 := by omega
  have f_N3 : 128 * i < 800000 := by omega
  obtain ⟨z6, hz6⟩ : ∃ q, q = (pX6_reach rt sg pw rd u w h r v tu tw su sw g (xs (nI (5 * i) + (1 : Int32)).toNatClampNeg)) := ⟨_, rfl⟩
  obtain ⟨z7, hz7⟩ : ∃ q, q = (pX7_reach mm xx (xs (nI (5 * i) + (1 : Int32)).toNatClampNeg) kn) := ⟨_, rfl⟩
  have Q := q_reach (rt := rt) (sg := sg) (pw := pw) (rd := rd) (u := u) (w := w) (h := h) (r := r) (v := v) (tu := tu) (tw := tw) (su := su) (sw := sw) (g := g) H0 (xs (nI (5 * i) + (1 : Int32)).toNatClampNeg)
  rw [← hz6, ← hz7] at Q
  obtain ⟨Q1, kn', Q2⟩ := Q
  refine lv_aload_n hx hb dL_law_339 rfl (lv_at hl 1 rfl) ?_
  refine lv_aload_n hx hb dL_law_340 rfl (lv_at hl 0 rfl) ?_
  refine lv_iload_n hx hb dL_law_341 rfl (lv_at hl 3 rfl) ?_
  refine lv_iconst (v := 1) hx hb dL_law_342 (by decide) ?_
  refine lv_iadd hx hb dL_law_343 ?_
  refine va_sld hx hb hX hbl hbA hS (vq1 hi hL) dL_law_344 ?_
  refine mVB (bl := [wRt Z C TR SN HI Y P R rt, wPd cyC P sg pw, wRd R P rd, wC cyI C u w, wHM cyI cyO HI BB h r v, wC cyI TR tu tw, wC cyI SN su sw, wWy cyI Y g, wM cyI A mm xx]) (bl' := [wRt Z C TR SN HI Y P R rt, wPd cyC P sg pw, wRd R P rd, wC cyI C z6.2.2.2.2.1 z6.2.2.2.2.2, wHM cyI cyO HI BB z6.2.1 z6.2.2.1 z6.2.2.2.1, wC cyI TR tu tw, wC cyI SN su sw, wWy cyI Y g, wM cyI A mm xx]) (WSb := [wRt Z C TR SN HI Y P R rt, wPd cyC P sg pw, wRd R P rd, wC cyI C u w, wHM cyI cyO HI BB h r v, wC cyI TR tu tw, wC cyI SN su sw, wWy cyI Y g]) (WSb' := [wRt Z C TR SN HI Y P R rt, wPd cyC P sg pw, wRd R P rd, wC cyI C z6.2.2.2.2.1 z6.2.2.2.2.2, wHM cyI cyO HI BB z6.2.1 z6.2.2.1 z6.2.2.2.1, wC cyI TR tu tw, wC cyI SN su sw, wWy cyI Y g]) (As := [.int (xs (nI (5 * i) + (1 : Int32)).toNatClampNeg)]) (rest := []) hx hb hml hown hts hl.1 (WS := (List.flatten [wRt Z C TR SN HI Y P R rt, wPd cyC P sg pw, wRd R P rd, wC cyI C u w, wHM cyI cyO HI BB h r v, wC cyI TR tu tw, wC cyI SN su sw, wWy cyI Y g])) (WS' := (List.flatten [wRt Z C TR SN HI Y P R rt, wPd cyC P sg pw, wRd R P rd, wC cyI C z6.2.2.2.2.1 z6.2.2.2.2.2, wHM cyI cyO HI BB z6.2.1 z6.2.2.1 z6.2.2.2.1, wC cyI TR tu tw, wC cyI SN su sw, wWy cyI Y g])) (ro := (some (.int z6.1))) (by rw [hz6]; exact kX6_reach l D cyC cyI cyO Z C TR SN HI Y P R BB rt sg pw rd u w h r v tu tw su sw g (xs (nI (5 * i) + (1 : Int32)).toNatClampNeg) f_r) bV_X6_reach wml_RL_36 ⟨rfl, rfl⟩ ⟨Nat.le_of_ble_eq_true rfl, Nat.le_of_ble_eq_true rfl, hNC, hNS⟩ [0, 1, 2, 3, 4, 5, 6, 7] rfl rfl rfl rfl rfl rfl rfl hP hD hS hA hK 0 rfl rfl rfl rfl rfl (Nat.le_of_ble_eq_true rfl) dL_law_345 (fun H locs hP hD hS => ?_)
  refine lv_aload_n hx hb dL_law_348 rfl (lv_at hl 2 rfl) ?_
  refine lv_aload_n hx hb dL_law_349 rfl (lv_at hl 0 rfl) ?_
  refine lv_iload_n hx hb dL_law_350 rfl (lv_at hl 3 rfl) ?_
  refine lv_iconst (v := 1) hx hb dL_law_351 (by decide) ?_
  refine lv_iadd hx hb dL_law_352 ?_
  refine va_sld hx hb hX hbl hbA hS (vq1 hi hL) dL_law_353 ?_
  refine mVB (bl := [wRt Z C TR SN HI Y P R rt, wPd cyC P sg pw, wRd R P rd, wC cyI C z6.2.2.2.2.1 z6.2.2.2.2.2, wHM cyI cyO HI BB z6.2.1 z6.2.2.1 z6.2.2.2.1, wC cyI TR tu tw, wC cyI SN su sw, wWy cyI Y g, wM cyI A mm xx]) (bl' := [wRt Z C TR SN HI Y P R rt, wPd cyC P sg pw, wRd R P rd, wC cyI C z6.2.2.2.2.1 z6.2.2.2.2.2, wHM cyI cyO HI BB z6.2.1 z6.2.2.1 z6.2.2.2.1, wC cyI TR tu tw, wC cyI SN su sw, wWy cyI Y g, wM cyI A z7.2.1 z7.2.2]) (WSb := [wM cyI A mm xx]) (WSb' := [wM cyI A z7.2.1 z7.2.2]) (As := [.int (xs (nI (5 * i) + (1 : Int32)).toNatClampNeg)]) (rest := [.int z6.1]) hx hb hml hown hts hl.1 (WS := (wM cyI A mm xx)) (WS' := (wM cyI A z7.2.1 z7.2.2)) (ro := (some (.int z7.1))) (by rw [hz7]; exact kX7_reach l D cyC cyI cyO A mm xx (xs (nI (5 * i) + (1 : Int32)).toNatClampNeg) kn f_kn f_k) bV_X7_reach wml_RL_39 ⟨rfl, rfl⟩ ⟨Nat.le_of_ble_eq_true rfl, Nat.le_of_ble_eq_true rfl, hNC, hNS⟩ [8] (by simp only [List.flatten_cons, List.flatten_nil, List.append_nil]) (by simp only [List.flatten_cons, List.flatten_nil, List.append_nil]) rfl rfl rfl rfl rfl hP hD hS hA hK 0 rfl rfl rfl rfl rfl (Nat.le_of_ble_eq_true rfl) dL_law_354 (fun H locs hP hD hS => ?_)
  refine lv_icmp_eq (tgt := 962) hx hb dL_law_357 (by decide) (fun _ => ?_) (fun q => absurd Q1 q)
  exact kk (rt) (sg) (pw) (rd) (z6.2.2.2.2.1) (z6.2.2.2.2.2) (z6.2.1) (z6.2.2.1) (z6.2.2.2.1) (tu) (tw) (su) (sw) (g) (z7.2.1) (z7.2.2) (kn') (n) (RA_mono Q2 (by omega)) H locs hP hD hS ls (lv_sub hl [0, 1, 2, 3] rfl)
set_option maxHeartbeats 4000000 in
set_option maxRecDepth 100000 in
theorem lc_6 (C0 : lw_At p s m meth c b L xs) (hK : KK D cyC cyI cyO s) (hNC : NC ≤ room_1.cells) (hNS : NS ≤ room_1.slots) (hi : 5 * i + 5 ≤ L) (hL : L ≤ 2560) (rt : Nat → Int32) (sg : Nat → Nat → Int32) (pw rd : Nat → Int32) (u : Nat → Nat → Int32) (w : Nat → Int32) (h : Nat → (Nat → Nat → Int32) × (Nat → Int32)) (r : Nat) (v : Nat → Int32) (tu : Nat → Nat → Int32) (tw : Nat → Int32) (su : Nat → Nat → Int32) (sw : Nat → Int32) (g : Nat → Nat → Int32) (mm : Nat → Nat → Int32) (xx : Nat → Int32) (kn n : Nat) (H0 : RA (128 * i) rt sg pw u w h r v su sw mm xx kn n) (kk : LK p l e s m below meth c b D cyC cyI cyO Z C TR SN HI Y P R A BB NC NS i) : ∀ (H : Heap) (locs : List Loc), va_P D vwCl (List.flatten [wRt Z C TR SN HI Y P R rt, wPd cyC P sg pw, wRd R P rd, wC cyI C u w, wHM cyI cyO HI BB h r v, wC cyI TR tu tw, wC cyI SN su sw, wWy cyI Y g, wM cyI A mm xx]) H → va_D (fun q : Nat => s.heap.size ≤ q) (List.flatten [wRt Z C TR SN HI Y P R rt, wPd cyC P sg pw, wRd R P rd, wC cyI C u w, wHM cyI cyO HI BB h r v, wC cyI TR tu tw, wC cyI SN su sw, wWy cyI Y g, wM cyI A mm xx]) → va_S (fun q : Nat => s.heap.size ≤ q) s.heap H locs → ∀ (ls : Array Slot), lv_has ls 8 [(0, .ref b), (1, .ref (Z 0)), (2, .ref (A 0)), (3, .int (nI (5 * i)))] → W p l e room_1 s m (#[Value.ref b] : Array Value) below meth c H locs NC NS (lw_Z below #[Value.ref b] s) (F0 m 362 ls []) := by
  intro H locs hP hD hS ls hl
  obtain ⟨hx, hb, hr, hml, hown, hts0, hX, hbl, hlocks, hgv⟩ := C0
  have hown : s.vm.findClass RL = some m.cls := hown
  have hts : ∀ w ∈ TB, w.before (#[Value.ref b] : Array Value) s = true := fun w h => hts0 w (List.mem_filter.mp h).1
  have hA : ∀ q : Nat, s.heap.size ≤ q → (fun q : Nat => s.heap.size ≤ q) q := fun _ h => h
  have hbA : ¬ (fun q : Nat => s.heap.size ≤ q) b := Nat.not_le.mpr hbl
  obtain ⟨f_r, f_q, f_ch, f_kn, f_k, f_m3, f_ln, f_l7, f_l6, f_7, f_n⟩ := RA_facts H0
  have f_N : 128 * i < 100000000 := by omega
  have f_N2 : 128 * i < 900000 := by omega
  have f_N3 : 128 * i < 800000 := by omega
  obtain ⟨z6, hz6⟩ : ∃ q, q = (pX6_hang rt sg pw rd u w h r v tu tw su sw g (xs (nI (5 * i) + (1 : Int32)).toNatClampNeg) (xs (nI (5 * i) + (2 : Int32)).toNatClampNeg)) := ⟨_, rfl⟩
  obtain ⟨z7, hz7⟩ : ∃ q, q = (pX7_hang mm xx (xs (nI (5 * i) + (1 : Int32)).toNatClampNeg) (xs (nI (5 * i) + (2 : Int32)).toNatClampNeg) kn) := ⟨_, rfl⟩
  have Q := q_hang (rt := rt) (sg := sg) (pw := pw) (rd := rd) (u := u) (w := w) (h := h) (r := r) (v := v) (tu := tu) (tw := tw) (su := su) (sw := sw) (g := g) H0 (xs (nI (5 * i) + (1 : Int32)).toNatClampNeg) (xs (nI (5 * i) + (2 : Int32)).toNatClampNeg)
  rw [← hz6, ← hz7] at Q
  obtain ⟨Q1, kn', Q2⟩ := Q
  refine lv_aload_n hx hb dL_law_362 rfl (lv_at hl 1 rfl) ?_
  refine lv_aload_n hx hb dL_law_363 rfl (lv_at hl 0 rfl) ?_
  refine lv_iload_n hx hb dL_law_364 rfl (lv_at hl 3 rfl) ?_
  refine lv_iconst (v := 1) hx hb dL_law_365 (by decide) ?_
  refine lv_iadd hx hb dL_law_366 ?_
  refine va_sld hx hb hX hbl hbA hS (vq1 hi hL) dL_law_367 ?_
  refine lv_aload_n hx hb dL_law_368 rfl (lv_at hl 0 rfl) ?_
  refine lv_iload_n hx hb dL_law_369 rfl (lv_at hl 3 rfl) ?_
  refine lv_iconst (v := 2) hx hb dL_law_370 (by decide) ?_
  refine lv_iadd hx hb dL_law_371 ?_
  refine va_sld hx hb hX hbl hbA hS (vq2 hi hL) dL_law_372 ?_
  refine mVB (bl := [wRt Z C TR SN HI Y P R rt, wPd cyC P sg pw, wRd R P rd, wC cyI C u w, wHM cyI cyO HI BB h r v, wC cyI TR tu tw, wC cyI SN su sw, wWy cyI Y g, wM cyI A mm xx]) (bl' := [wRt Z C TR SN HI Y P R rt, wPd cyC P sg pw, wRd R P rd, wC cyI C z6.2.2.2.2.1 z6.2.2.2.2.2, wHM cyI cyO HI BB z6.2.1 z6.2.2.1 z6.2.2.2.1, wC cyI TR tu tw, wC cyI SN su sw, wWy cyI Y g, wM cyI A mm xx]) (WSb := [wRt Z C TR SN HI Y P R rt, wPd cyC P sg pw, wRd R P rd, wC cyI C u w, wHM cyI cyO HI BB h r v, wC cyI TR tu tw, wC cyI SN su sw, wWy cyI Y g]) (WSb' := [wRt Z C TR SN HI Y P R rt, wPd cyC P sg pw, wRd R P rd, wC cyI C z6.2.2.2.2.1 z6.2.2.2.2.2, wHM cyI cyO HI BB z6.2.1 z6.2.2.1 z6.2.2.2.1, wC cyI TR tu tw, wC cyI SN su sw, wWy cyI Y g]) (As := [.int (xs (nI (5 * i) + (1 : Int32)).toNatClampNeg), .int (xs (nI (5 * i) + (2 : Int32)).toNatClampNeg)]) (rest := []) hx hb hml hown hts hl.1 (WS := (List.flatten [wRt Z C TR SN HI Y P R rt, wPd cyC P sg pw, wRd R P rd, wC cyI C u w, wHM cyI cyO HI BB h r v, wC cyI TR tu tw, wC cyI SN su sw, wWy cyI Y g])) (WS' := (List.flatten [wRt Z C TR SN HI Y P R rt, wPd cyC P sg pw, wRd R P rd, wC cyI C z6.2.2.2.2.1 z6.2.2.2.2.2, wHM cyI cyO HI BB z6.2.1 z6.2.2.1 z6.2.2.2.1, wC cyI TR tu tw, wC cyI SN su sw, wWy cyI Y g])) (ro := (some (.int z6.1))) (by rw [hz6]; exact kX6_hang l D cyC cyI cyO Z C TR SN HI Y P R BB rt sg pw rd u w h r v tu tw su sw g (xs (nI (5 * i) + (1 : Int32)).toNatClampNeg) (xs (nI (5 * i) + (2 : Int32)).toNatClampNeg) f_r f_q) bV_X6_hang wml_RL_40 ⟨rfl, rfl⟩ ⟨Nat.le_of_ble_eq_true rfl, Nat.le_of_ble_eq_true rfl, hNC, hNS⟩ [0, 1, 2, 3, 4, 5, 6, 7] rfl rfl rfl rfl rfl rfl rfl hP hD hS hA hK 0 rfl rfl rfl rfl rfl (Nat.le_of_ble_eq_true rfl) dL_law_373 (fun H locs hP hD hS => ?_)
  refine lv_aload_n hx hb dL_law_376 rfl (lv_at hl 2 rfl) ?_
  refine lv_aload_n hx hb dL_law_377 rfl (lv_at hl 0 rfl) ?_
  refine lv_iload_n hx hb dL_law_378 rfl (lv_at hl 3 rfl) ?_
  refine lv_iconst (v := 1) hx hb dL_law_379 (by decide) ?_
  refine lv_iadd hx hb dL_law_380 ?_
  refine va_sld hx hb hX hbl hbA hS (vq1 hi hL) dL_law_381 ?_
  refine lv_aload_n hx hb dL_law_382 rfl (lv_at hl 0 rfl) ?_
  refine lv_iload_n hx hb dL_law_383 rfl (lv_at hl 3 rfl) ?_
  refine lv_iconst (v := 2) hx hb dL_law_384 (by decide) ?_
  refine lv_iadd hx hb dL_law_385 ?_
  refine va_sld hx hb hX hbl hbA hS (vq2 hi hL) dL_law_386 ?_
  refine mVB (bl := [wRt Z C TR SN HI Y P R rt, wPd cyC P sg pw, wRd R P rd, wC cyI C z6.2.2.2.2.1 z6.2.2.2.2.2, wHM cyI cyO HI BB z6.2.1 z6.2.2.1 z6.2.2.2.1, wC cyI TR tu tw, wC cyI SN su sw, wWy cyI Y g, wM cyI A mm xx]) (bl' := [wRt Z C TR SN HI Y P R rt, wPd cyC P sg pw, wRd R P rd, wC cyI C z6.2.2.2.2.1 z6.2.2.2.2.2, wHM cyI cyO HI BB z6.2.1 z6.2.2.1 z6.2.2.2.1, wC cyI TR tu tw, wC cyI SN su sw, wWy cyI Y g, wM cyI A z7.2.1 z7.2.2]) (WSb := [wM cyI A mm xx]) (WSb' := [wM cyI A z7.2.1 z7.2.2]) (As := [.int (xs (nI (5 * i) + (1 : Int32)).toNatClampNeg), .int (xs (nI (5 * i) + (2 : Int32)).toNatClampNeg)]) (rest := [.int z6.1]) hx hb hml hown hts hl.1 (WS := (wM cyI A mm xx)) (WS' := (wM cyI A z7.2.1 z7.2.2)) (ro := (some (.int z7.1))) (by rw [hz7]; exact kX7_hang l D cyC cyI cyO A mm xx (xs (nI (5 * i) + (1 : Int32)).toNatClampNeg) (xs (nI (5 * i) + (2 : Int32)).toNatClampNeg) kn f_kn f_k f_m3) bV_X7_hang wml_RL_43 ⟨rfl, rfl⟩ ⟨Nat.le_of_ble_eq_true rfl, Nat.le_of_ble_eq_true rfl, hNC, hNS⟩ [8] (by simp only [List.flatten_cons, List.flatten_nil, List.append_nil]) (by simp only [List.flatten_cons, List.flatten_nil, List.append_nil]) rfl rfl rfl rfl rfl hP hD hS hA hK 0 rfl rfl rfl rfl rfl (Nat.le_of_ble_eq_true rfl) dL_law_387 (fun H locs hP hD hS => ?_)
  refine lv_icmp_eq (tgt := 962) hx hb dL_law_390 (by decide) (fun _ => ?_) (fun q => absurd Q1 q)
  exact kk (rt) (sg) (pw) (rd) (z6.2.2.2.2.1) (z6.2.2.2.2.2) (z6.2.1) (z6.2.2.1) (z6.2.2.2.1) (tu) (tw) (su) (sw) (g) (z7.2.1) (z7.2.2) (kn') (n) (RA_mono Q2 (by omega)) H locs hP hD hS ls (lv_sub hl [0, 1, 2, 3] rfl)
set_option maxHeartbeats 4000000 in
set_option maxRecDepth 100000 in
theorem lc_7 (C0 : lw_At p s m meth c b L xs) (hK : KK D cyC cyI cyO s) (hNC : NC ≤ room_1.cells) (hNS : NS ≤ room_1.slots) (hi : 5 * i + 5 ≤ L) (hL : L ≤ 2560) (rt : Nat → Int32) (sg : Nat → Nat → Int32) (pw rd : Nat → Int32) (u : Nat → Nat → Int32) (w : Nat → Int32) (h : Nat → (Nat → Nat → Int32) × (Nat → Int32)) (r : Nat) (v : Nat → Int32) (tu : Nat → Nat → Int32) (tw : Nat → Int32) (su : Nat → Nat → Int32) (sw : Nat → Int32) (g : Nat → Nat → Int32) (mm : Nat → Nat → Int32) (xx : Nat → Int32) (kn n : Nat) (H0 : RA (128 * i) rt sg pw u w h r v su sw mm xx kn n) (kk : LK p l e s m below meth c b D cyC cyI cyO Z C TR SN HI Y P R A BB NC NS i) : ∀ (H : Heap) (locs : List Loc), va_P D vwCl (List.flatten [wRt Z C TR SN HI Y P R rt, wPd cyC P sg pw, wRd R P rd, wC cyI C u w, wHM cyI cyO HI BB h r v, wC cyI TR tu tw, wC cyI SN su sw, wWy cyI Y g, wM cyI A mm xx]) H → va_D (fun q : Nat => s.heap.size ≤ q) (List.flatten [wRt Z C TR SN HI Y P R rt, wPd cyC P sg pw, wRd R P rd, wC cyI C u w, wHM cyI cyO HI BB h r v, wC cyI TR tu tw, wC cyI SN su sw, wWy cyI Y g, wM cyI A mm xx]) → va_S (fun q : Nat => s.heap.size ≤ q) s.heap H locs → ∀ (ls : Array Slot), lv_has ls 8 [(0, .ref b), (1, .ref (Z 0)), (2, .ref (A 0)), (3, .int (nI (5 * i)))] → W p l e room_1 s m (#[Value.ref b] : Array Value) below meth c H locs NC NS (lw_Z below #[Value.ref b] s) (F0 m 395 ls []) := by
  intro H locs hP hD hS ls hl
  obtain ⟨hx, hb, hr, hml, hown, hts0, hX, hbl, hlocks, hgv⟩ := C0
  have hown : s.vm.findClass RL = some m.cls := hown
  have hts : ∀ w ∈ TB, w.before (#[Value.ref b] : Array Value) s = true := fun w h => hts0 w (List.mem_filter.mp h).1
  have hA : ∀ q : Nat, s.heap.size ≤ q → (fun q : Nat => s.heap.size ≤ q) q := fun _ h => h
  have hbA : ¬ (fun q : Nat => s.heap.size ≤ q) b := Nat.not_le.mpr hbl
  obtain ⟨f_r, f_q, f_ch, f_kn, f_k, f_m3, f_ln, f_l7, f_l6, f_7, f_n⟩ := RA_facts H0
  have f_N : 128 * i < 100000000 := by omega
  have f_N2 : 128 * i < 900000 := by omega
  have f_N3 : 128 * i < 800000 := by omega
  obtain ⟨z6, hz6⟩ : ∃ q, q = (pX6_take rt sg pw rd u w h r v tu tw su sw g (xs (nI (5 * i) + (1 : Int32)).toNatClampNeg) (xs (nI (5 * i) + (2 : Int32)).toNatClampNeg)) := ⟨_, rfl⟩
  obtain ⟨z7, hz7⟩ : ∃ q, q = (pX7_take mm xx (xs (nI (5 * i) + (1 : Int32)).toNatClampNeg) (xs (nI (5 * i) + (2 : Int32)).toNatClampNeg) kn) := ⟨_, rfl⟩
  have Q := q_take (rt := rt) (sg := sg) (pw := pw) (rd := rd) (u := u) (w := w) (h := h) (r := r) (v := v) (tu := tu) (tw := tw) (su := su) (sw := sw) (g := g) H0 f_N (xs (nI (5 * i) + (1 : Int32)).toNatClampNeg) (xs (nI (5 * i) + (2 : Int32)).toNatClampNeg)
  rw [← hz6, ← hz7] at Q
  obtain ⟨Q1, kn', Q2⟩ := Q
  refine lv_aload_n hx hb dL_law_395 rfl (lv_at hl 1 rfl) ?_
  refine lv_aload_n hx hb dL_law_396 rfl (lv_at hl 0 rfl) ?_
  refine lv_iload_n hx hb dL_law_397 rfl (lv_at hl 3 rfl) ?_
  refine lv_iconst (v := 1) hx hb dL_law_398 (by decide) ?_
  refine lv_iadd hx hb dL_law_399 ?_
  refine va_sld hx hb hX hbl hbA hS (vq1 hi hL) dL_law_400 ?_
  refine lv_aload_n hx hb dL_law_401 rfl (lv_at hl 0 rfl) ?_
  refine lv_iload_n hx hb dL_law_402 rfl (lv_at hl 3 rfl) ?_
  refine lv_iconst (v := 2) hx hb dL_law_403 (by decide) ?_
  refine lv_iadd hx hb dL_law_404 ?_
  refine va_sld hx hb hX hbl hbA hS (vq2 hi hL) dL_law_405 ?_
  refine mVB (bl := [wRt Z C TR SN HI Y P R rt, wPd cyC P sg pw, wRd R P rd, wC cyI C u w, wHM cyI cyO HI BB h r v, wC cyI TR tu tw, wC cyI SN su sw, wWy cyI Y g, wM cyI A mm xx]) (bl' := [wRt Z C TR SN HI Y P R rt, wPd cyC P sg pw, wRd R P rd, wC cyI C z6.2.2.2.2.1 z6.2.2.2.2.2, wHM cyI cyO HI BB z6.2.1 z6.2.2.1 z6.2.2.2.1, wC cyI TR tu tw, wC cyI SN su sw, wWy cyI Y g, wM cyI A mm xx]) (WSb := [wRt Z C TR SN HI Y P R rt, wPd cyC P sg pw, wRd R P rd, wC cyI C u w, wHM cyI cyO HI BB h r v, wC cyI TR tu tw, wC cyI SN su sw, wWy cyI Y g]) (WSb' := [wRt Z C TR SN HI Y P R rt, wPd cyC P sg pw, wRd R P rd, wC cyI C z6.2.2.2.2.1 z6.2.2.2.2.2, wHM cyI cyO HI BB z6.2.1 z6.2.2.1 z6.2.2.2.1, wC cyI TR tu tw, wC cyI SN su sw, wWy cyI Y g]) (As := [.int (xs (nI (5 * i) + (1 : Int32)).toNatClampNeg), .int (xs (nI (5 * i) + (2 : Int32)).toNatClampNeg)]) (rest := []) hx hb hml hown hts hl.1 (WS := (List.flatten [wRt Z C TR SN HI Y P R rt, wPd cyC P sg pw, wRd R P rd, wC cyI C u w, wHM cyI cyO HI BB h r v, wC cyI TR tu tw, wC cyI SN su sw, wWy cyI Y g])) (WS' := (List.flatten [wRt Z C TR SN HI Y P R rt, wPd cyC P sg pw, wRd R P rd, wC cyI C z6.2.2.2.2.1 z6.2.2.2.2.2, wHM cyI cyO HI BB z6.2.1 z6.2.2.1 z6.2.2.2.1, wC cyI TR tu tw, wC cyI SN su sw, wWy cyI Y g])) (ro := (some (.int z6.1))) (by rw [hz6]; exact kX6_take l D cyC cyI cyO Z C TR SN HI Y P R BB rt sg pw rd u w h r v tu tw su sw g (xs (nI (5 * i) + (1 : Int32)).toNatClampNeg) (xs (nI (5 * i) + (2 : Int32)).toNatClampNeg) f_r) bV_X6_take wml_RL_44 ⟨rfl, rfl⟩ ⟨Nat.le_of_ble_eq_true rfl, Nat.le_of_ble_eq_true rfl, hNC, hNS⟩ [0, 1, 2, 3, 4, 5, 6, 7] rfl rfl rfl rfl rfl rfl rfl hP hD hS hA hK 0 rfl rfl rfl rfl rfl (Nat.le_of_ble_eq_true rfl) dL_law_406 (fun H locs hP hD hS => ?_)
  refine lv_aload_n hx hb dL_law_409 rfl (lv_at hl 2 rfl) ?_
  refine lv_aload_n hx hb dL_law_410 rfl (lv_at hl 0 rfl) ?_
  refine lv_iload_n hx hb dL_law_411 rfl (lv_at hl 3 rfl) ?_
  refine lv_iconst (v := 1) hx hb dL_law_412 (by decide) ?_
  refine lv_iadd hx hb dL_law_413 ?_
  refine va_sld hx hb hX hbl hbA hS (vq1 hi hL) dL_law_414 ?_
  refine lv_aload_n hx hb dL_law_415 rfl (lv_at hl 0 rfl) ?_
  refine lv_iload_n hx hb dL_law_416 rfl (lv_at hl 3 rfl) ?_
  refine lv_iconst (v := 2) hx hb dL_law_417 (by decide) ?_
  refine lv_iadd hx hb dL_law_418 ?_
  refine va_sld hx hb hX hbl hbA hS (vq2 hi hL) dL_law_419 ?_
  refine mVB (bl := [wRt Z C TR SN HI Y P R rt, wPd cyC P sg pw, wRd R P rd, wC cyI C z6.2.2.2.2.1 z6.2.2.2.2.2, wHM cyI cyO HI BB z6.2.1 z6.2.2.1 z6.2.2.2.1, wC cyI TR tu tw, wC cyI SN su sw, wWy cyI Y g, wM cyI A mm xx]) (bl' := [wRt Z C TR SN HI Y P R rt, wPd cyC P sg pw, wRd R P rd, wC cyI C z6.2.2.2.2.1 z6.2.2.2.2.2, wHM cyI cyO HI BB z6.2.1 z6.2.2.1 z6.2.2.2.1, wC cyI TR tu tw, wC cyI SN su sw, wWy cyI Y g, wM cyI A z7.2.1 z7.2.2]) (WSb := [wM cyI A mm xx]) (WSb' := [wM cyI A z7.2.1 z7.2.2]) (As := [.int (xs (nI (5 * i) + (1 : Int32)).toNatClampNeg), .int (xs (nI (5 * i) + (2 : Int32)).toNatClampNeg)]) (rest := [.int z6.1]) hx hb hml hown hts hl.1 (WS := (wM cyI A mm xx)) (WS' := (wM cyI A z7.2.1 z7.2.2)) (ro := (some (.int z7.1))) (by rw [hz7]; exact kX7_take l D cyC cyI cyO A mm xx (xs (nI (5 * i) + (1 : Int32)).toNatClampNeg) (xs (nI (5 * i) + (2 : Int32)).toNatClampNeg) kn f_kn f_k) bV_X7_take wml_RL_47 ⟨rfl, rfl⟩ ⟨Nat.le_of_ble_eq_true rfl, Nat.le_of_ble_eq_true rfl, hNC, hNS⟩ [8] (by simp only [List.flatten_cons, List.flatten_nil, List.append_nil]) (by simp only [List.flatten_cons, List.flatten_nil, List.append_nil]) rfl rfl rfl rfl rfl hP hD hS hA hK 0 rfl rfl rfl rfl rfl (Nat.le_of_ble_eq_true rfl) dL_law_420 (fun H locs hP hD hS => ?_)
  refine lv_icmp_eq (tgt := 962) hx hb dL_law_423 (by decide) (fun _ => ?_) (fun q => absurd Q1 q)
  exact kk (rt) (sg) (pw) (rd) (z6.2.2.2.2.1) (z6.2.2.2.2.2) (z6.2.1) (z6.2.2.1) (z6.2.2.2.1) (tu) (tw) (su) (sw) (g) (z7.2.1) (z7.2.2) (kn') (n) (RA_mono Q2 (by omega)) H locs hP hD hS ls (lv_sub hl [0, 1, 2, 3] rfl)
end LAWC
