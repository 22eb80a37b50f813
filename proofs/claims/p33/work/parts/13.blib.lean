/-! ===== worlds as lists of blocks ===== -/
def putB : List va_W → List Nat → List va_W → List va_W
  | bl, i :: is, x :: w1 => putB (bl.set i x) is w1
  | bl, _, _ => bl
theorem putB_get : ∀ (is : List Nat) (w1 bl : List va_W) (k : Nat) (b : va_W), (putB bl is w1)[k]? = some b → is.length = w1.length → b ∈ w1 ∨ (bl[k]? = some b ∧ k ∉ is)
  | [], [], bl, k, b, h, _ => Or.inr ⟨h, List.not_mem_nil⟩
  | [], _ :: _, _, _, _, _, hl => by simp at hl
  | _ :: _, [], _, _, _, _, hl => by simp at hl
  | i :: is, x :: w1, bl, k, b, h, hl => by
    rcases putB_get is w1 (bl.set i x) k b h (by simpa using hl) with h1 | ⟨h1, h2⟩
    · exact Or.inl (List.mem_cons_of_mem _ h1)
    · by_cases hk : k = i
      · subst hk
        rw [List.getElem?_set] at h1
        simp only [if_true] at h1
        split at h1
        · cases h1
          exact Or.inl List.mem_cons_self
        · cases h1
      · rw [List.getElem?_set_ne (Ne.symm hk)] at h1
        exact Or.inr ⟨h1, fun z => (List.mem_cons.mp z).elim hk h2⟩
theorem va_P_mem {D : va_G} {cl : List vw_C} {ws : va_W} {H : Heap} : va_P D cl ws H ↔ ∀ q ∈ ws, va_at D cl q H := by
  refine ⟨fun h q hq => ?_, fun h k q hk => h q (List.mem_of_getElem? hk)⟩
  obtain ⟨k, hk⟩ := List.getElem?_of_mem hq
  exact h k q hk
theorem va_D_pw {A : Nat → Prop} {ws : va_W} (h : va_D A ws) : ws.Pairwise (fun p q => p.1 ≠ q.1) := by
  rw [List.pairwise_iff_getElem]
  intro i j hi hj hij he
  exact absurd (h.1 i j ws[i] ws[j] (List.getElem?_eq_getElem hi) (List.getElem?_eq_getElem hj) he) (Nat.ne_of_lt hij)
theorem va_A_mem {ws : va_W} {sz q : Nat} (h : va_A ws sz q) : (∃ p ∈ ws, p.1 = q) ∨ sz ≤ q := by
  rcases h with ⟨k, e, h⟩ | h
  · exact Or.inl ⟨(q, e), List.mem_of_getElem? h, rfl⟩
  · exact Or.inr h
/-- blocks at two different places have no address in common -/
theorem bl_apart {A : Nat → Prop} {bl : List va_W} (h : va_D A bl.flatten) {i j : Nat} {a b : va_W} (hij : i ≠ j) (hi : bl[i]? = some a) (hj : bl[j]? = some b) {p q : Nat × va_E} (hp : p ∈ a) (hq : q ∈ b) : p.1 ≠ q.1 := by
  have h2 := (List.pairwise_flatten.mp (va_D_pw h)).2
  rw [List.pairwise_iff_getElem] at h2
  obtain ⟨li, ei⟩ := List.getElem?_eq_some_iff.mp hi
  obtain ⟨lj, ej⟩ := List.getElem?_eq_some_iff.mp hj
  rcases Nat.lt_or_gt_of_ne hij with c | c
  · have := h2 i j li lj c
    rw [ei, ej] at this
    exact this p hp q hq
  · have := h2 j i lj li c
    rw [ei, ej] at this
    exact fun e => this q hq p hp e.symm
theorem bl_at {bl WSb : List va_W} {is : List Nat} (hC : is.map (fun i => bl[i]?) = WSb.map some) {b : va_W} (hb : b ∈ WSb) : ∃ i ∈ is, bl[i]? = some b := by
  have h1 : some b ∈ WSb.map some := List.mem_map.mpr ⟨b, hb, rfl⟩
  rw [← hC] at h1
  obtain ⟨i, hi, e⟩ := List.mem_map.mp h1
  exact ⟨i, hi, e⟩
theorem bl_sub {D : va_G} {cl : List vw_C} {bl WSb : List va_W} {H : Heap} (is : List Nat) (hC : is.map (fun i => bl[i]?) = WSb.map some) (hP : va_P D cl bl.flatten H) : va_P D cl WSb.flatten H := by
  rw [va_P_mem] at hP ⊢
  intro q hq
  obtain ⟨b, hb, hq⟩ := List.mem_flatten.mp hq
  obtain ⟨i, -, hi⟩ := bl_at hC hb
  exact hP q (List.mem_flatten.mpr ⟨b, List.mem_of_getElem? hi, hq⟩)
theorem pw_D {A : Nat → Prop} {ws : va_W} (h : ws.Pairwise (fun p q => p.1 ≠ q.1)) (hA : ∀ q ∈ ws, A q.1) : va_D A ws := by
  refine ⟨fun i j p q hi hj he => ?_, fun k q hk => hA q (List.mem_of_getElem? hk)⟩
  rw [List.pairwise_iff_getElem] at h
  obtain ⟨li, ei⟩ := List.getElem?_eq_some_iff.mp hi
  obtain ⟨lj, ej⟩ := List.getElem?_eq_some_iff.mp hj
  rcases Nat.lt_trichotomy i j with c | c | c
  · exact absurd (by rw [ei, ej]; exact he) (h i j li lj c)
  · exact c
  · exact absurd (by rw [ei, ej]; exact he.symm) (h j i lj li c)
theorem bl_subD {A : Nat → Prop} {bl WSb : List va_W} (is : List Nat) (hnd : va_nd is = true) (hC : is.map (fun i => bl[i]?) = WSb.map some) (hD : va_D A bl.flatten) : va_D A WSb.flatten := by
  have hpw := List.pairwise_flatten.mp (va_D_pw hD)
  refine pw_D (List.pairwise_flatten.mpr ⟨fun b hb => ?_, ?_⟩) (fun q hq => ?_)
  · obtain ⟨i, -, hi⟩ := bl_at hC hb
    exact hpw.1 b (List.mem_of_getElem? hi)
  · rw [List.pairwise_iff_getElem]
    intro a b ha hb hab p hp q hq
    have hl : is.length = WSb.length := by simpa using congrArg List.length hC
    have ga : bl[is[a]'(by omega)]? = some WSb[a] := by
      have := congrArg (fun l => l[a]?) hC
      simpa [List.getElem?_map, List.getElem?_eq_getElem (show a < is.length by omega), List.getElem?_eq_getElem ha] using this
    have gb : bl[is[b]'(by omega)]? = some WSb[b] := by
      have := congrArg (fun l => l[b]?) hC
      simpa [List.getElem?_map, List.getElem?_eq_getElem (show b < is.length by omega), List.getElem?_eq_getElem hb] using this
    refine bl_apart hD (fun e => ?_) ga gb hp hq
    have := va_nd_inj is hnd a b (is[a]'(by omega)) (List.getElem?_eq_getElem (by omega)) (by rw [e]; exact List.getElem?_eq_getElem (by omega))
    omega
  · obtain ⟨b, hb, hq⟩ := List.mem_flatten.mp hq
    obtain ⟨i, -, hi⟩ := bl_at hC hb
    obtain ⟨k, hk⟩ := List.getElem?_of_mem (List.mem_flatten.mpr ⟨b, List.mem_of_getElem? hi, hq⟩)
    exact hD.2 k q hk
theorem bl_D {A : Nat → Prop} {bl bl' : List va_W} (hf : bl'.map (List.map Prod.fst) = bl.map (List.map Prod.fst)) (hD : va_D A bl.flatten) : va_D A bl'.flatten :=
  va_D_fst hD (by rw [List.map_flatten, List.map_flatten, hf])
theorem bl_jn {D : va_G} {bl WSb WSb' bl' : List va_W} {A : Nat → Prop} {H H1 : Heap} (is : List Nat) (hC : is.map (fun i => bl[i]?) = WSb.map some) (hl2 : WSb'.length = WSb.length) (hW : putB bl is WSb' = bl') (hP : va_P D vwCl bl.flatten H) (hD : va_D A bl.flatten) (hP1 : va_P D vwCl WSb'.flatten H1) (hF : ∀ q : Nat, q < H.size → ¬ va_A WSb.flatten H.size q → H1[q]? = H[q]?) : va_P D vwCl bl'.flatten H1 := by
  subst hW
  have hl : is.length = WSb'.length := by
    have h1 := congrArg List.length hC
    simp only [List.length_map] at h1
    omega
  rw [va_P_mem] at hP hP1 ⊢
  intro q hq
  obtain ⟨b, hb, hq⟩ := List.mem_flatten.mp hq
  obtain ⟨k, hk⟩ := List.getElem?_of_mem hb
  rcases putB_get is WSb' bl k b hk hl with h | ⟨h1, h2⟩
  · exact hP1 q (List.mem_flatten.mpr ⟨b, h, hq⟩)
  · have hat := hP q (List.mem_flatten.mpr ⟨b, List.mem_of_getElem? h1, hq⟩)
    have hlt := hat.lt
    refine hat.kept (hF q.1 hlt (fun z => ?_))
    rcases va_A_mem z with ⟨p, hp, e⟩ | z
    · obtain ⟨b2, hb2, hp⟩ := List.mem_flatten.mp hp
      obtain ⟨i, hi, hi2⟩ := bl_at hC hb2
      exact bl_apart hD (fun (e2 : i = k) => h2 (e2 ▸ hi)) hi2 h1 hp hq e
    · omega
theorem bl_free {A0 : Nat → Prop} {bl WSb : List va_W} {H0 H : Heap} {locs : List Loc} (hD : va_D A0 bl.flatten) (hS : va_S A0 H0 H locs) (hA : ∀ q, H0.size ≤ q → A0 q) (is : List Nat) (hC : is.map (fun i => bl[i]?) = WSb.map some) : ∀ q, va_A WSb.flatten H.size q → A0 q := by
  intro q hq
  rcases va_A_mem hq with ⟨p, hp, e⟩ | z
  · obtain ⟨b, hb, hp⟩ := List.mem_flatten.mp hp
    obtain ⟨i, -, hi⟩ := bl_at hC hb
    obtain ⟨k, hk⟩ := List.getElem?_of_mem (List.mem_flatten.mpr ⟨b, List.mem_of_getElem? hi, hp⟩)
    rw [← e]
    exact hD.2 k p hk
  · exact hA q (Nat.le_trans hS.1 z)
section QB
variable {p : Program} {l : Launch} {e : Env} {R : Room} {s : State} {m : MethodId} {args : Array Value} {below : List Frame} {meth : Method} {c : Code} {H : Heap} {locs : List Loc} {cells slots : Nat} {Q : State → Prop}
variable {pc : Nat} {ls : Array Slot} {rest st0 : List Value} {a : Array Value}
theorem mu_endB {ro : Option Value} {D : va_G} {bl WSb WSb' bl' : List va_W} {WS WS' : va_W} {A : Nat → Prop} {H0 : Heap} (h1 : WSb.flatten = WS) (h1' : WSb'.flatten = WS') (hr : va_Run p l e R s m args below meth c H locs cells slots 0 0 (F0 m pc ls st0) rest (MQQ ro D WS' (va_A WS H.size) a) (va_A WS H.size))
    (is : List Nat) (hC : is.map (fun i => bl[i]?) = WSb.map some) (hl2 : WSb'.length = WSb.length) (hW : putB bl is WSb' = bl') (hf2 : bl'.map (List.map Prod.fst) = bl.map (List.map Prod.fst)) (hP : va_P D vwCl bl.flatten H) (hD : va_D A bl.flatten) (hS : va_S A H0 H locs) (hA : ∀ q, H0.size ≤ q → A q)
    (kk : ∀ (H1 : Heap) (locs1 : List Loc), va_P D vwCl bl'.flatten H1 → va_D A bl'.flatten → va_S A H0 H1 locs1 → W p l e R s m args below meth c H1 locs1 cells slots Q (F0 m (pc + 3) ls (ro.toList ++ rest))) : W p l e R s m args below meth c H locs cells slots Q (F0 m pc ls st0) := by
  subst h1
  subst h1'
  have hfree : ∀ q, va_A WSb.flatten H.size q → A q := bl_free hD hS hA is hC
  intro T hT X
  obtain ⟨v, st₀, t, T', L, h0, X', hL, e1, e2, ⟨⟨hv, hp⟩, hz, hk⟩, st⟩ := hr T hT X
  cases hv
  rw [h0] at hz hk
  rw [← e1] at hp hz hk
  obtain ⟨t2, a1, b1⟩ := kk T'.heap (locs ++ L) (bl_jn is hC hl2 hW hP hD hp hk) (bl_D hf2 hD)
    ⟨Nat.le_trans hS.1 hz, fun q h1 h2 => by rw [hk q (Nat.lt_of_lt_of_le h1 hS.1) (fun z => h2 (hfree q z))]; exact hS.2.1 q h1 h2, fun q hq => by
      rcases List.mem_append.mp hq with h | h
      · exact hS.2.2 q h
      · exact hfree _ (hL q h)⟩ T' rfl X'
  exact ⟨t2, st t2 a1, b1⟩
variable {y : MethodName} {cc bytes : ByteArray} {maxL nL n index : Nat} {ret : Option FieldType} {rm : Room} {own C : String} {b : Addr} {As : List Value} {D : va_G} {cyC cyI cyO : ClassId} {WS WS' : va_W} {bl WSb WSb' bl' : List va_W} {r : Int32} {ro : Option Value} {A : Nat → Prop} {H0 : Heap}
theorem rVB (hx : p.tables.exec = Jvm.exec) (hb : c.code = cc) (hml : c.maxLocals = nL) (hown : s.vm.findClass own = some m.cls) (hts : ∀ w ∈ TB, w.before args s = true) (hls : ls.size = nL)
    (hM : RO l y (Ty y bytes maxL ret) rm D cyC cyI cyO WS (.ref b :: As) r) (hB : BV C y bytes maxL ret n) (hlk : Cond.methodLink own index y ∈ TB) (hrc : rm.cells = 0 ∧ rm.slots = 0)
    (hR : rm.frames + 1 ≤ R.frames ∧ 8 + (maxL + 11) + rm.locals ≤ R.locals ∧ cells ≤ R.cells ∧ slots ≤ R.slots)
    (is : List Nat) (h1 : WSb.flatten = WS) (hC : is.map (fun i => bl[i]?) = WSb.map some) (hP : va_P D vwCl bl.flatten H) (hK : KK D cyC cyI cyO s) (q0 : Nat) {ci : Nat} {fs : List Value} {q : vw_C} (he : WS[q0]? = some (b, .inr (ci, fs))) (hc : vwCl[ci]? = some q) (hqC : q.1 = C) (hn : As.length = n) (hst : st0 = As.reverse ++ .ref b :: rest) (hroom : (rest.map fun v => v.category).sum ≤ 8) (hdg : decode cc pc = .ok (.invokevirtual index, 3))
    (kk : W p l e R s m args below meth c H locs cells slots Q (F0 m (pc + 3) ls (.int r :: rest))) : W p l e R s m args below meth c H locs cells slots Q (F0 m pc ls st0) := by
  subst hqC
  subst h1
  have hP2 := bl_sub is hC hP
  exact ro_end (va_runV (C := q.1) (As := As) (rest := rest) ⟨hx, hb, hml, hown, hts⟩ hM (cwV n hts (good4 hlk hB.2.1 hB.2.2.1 hB.2.2.2.1 (TyGood hB.1)) rfl hrc.1 hrc.2 hB.2.2.2.2 ⟨hR.1, hR.2.1⟩) ⟨ro_blind, va_recv hK.1 hP2 hc he, fun U hU hW => ⟨rfl, by rw [hU]; exact hP2, hK.warm hW⟩⟩ rfl hn hls hst (lv_room hroom) hdg hR.2.2) kk
theorem mVB (hx : p.tables.exec = Jvm.exec) (hb : c.code = cc) (hml : c.maxLocals = nL) (hown : s.vm.findClass own = some m.cls) (hts : ∀ w ∈ TB, w.before args s = true) (hls : ls.size = nL)
    (hM : MU l y (Ty y bytes maxL ret) rm D cyC cyI cyO WS (.ref b :: As) ro WS') (hB : BV C y bytes maxL ret n) (hlk : Cond.methodLink own index y ∈ TB) (hrc : rm.cells = 0 ∧ rm.slots = 0)
    (hR : rm.frames + 1 ≤ R.frames ∧ 8 + (maxL + 11) + rm.locals ≤ R.locals ∧ cells ≤ R.cells ∧ slots ≤ R.slots)
    (is : List Nat) (h1 : WSb.flatten = WS) (h1' : WSb'.flatten = WS') (hnd : va_nd is = true) (hC : is.map (fun i => bl[i]?) = WSb.map some) (hl2 : WSb'.length = WSb.length) (hW : putB bl is WSb' = bl') (hf2 : bl'.map (List.map Prod.fst) = bl.map (List.map Prod.fst)) (hP : va_P D vwCl bl.flatten H) (hD : va_D A bl.flatten) (hS : va_S A H0 H locs) (hA : ∀ q, H0.size ≤ q → A q) (hK : KK D cyC cyI cyO s) (q0 : Nat) {ci : Nat} {fs : List Value} {q : vw_C} (he : WS[q0]? = some (b, .inr (ci, fs))) (hc : vwCl[ci]? = some q) (hqC : q.1 = C) (hn : As.length = n) (hst : st0 = As.reverse ++ .ref b :: rest) (hroom : (rest.map fun v => v.category).sum ≤ 8) (hdg : decode cc pc = .ok (.invokevirtual index, 3))
    (kk : ∀ (H1 : Heap) (locs1 : List Loc), va_P D vwCl bl'.flatten H1 → va_D A bl'.flatten → va_S A H0 H1 locs1 → W p l e R s m args below meth c H1 locs1 cells slots Q (F0 m (pc + 3) ls (ro.toList ++ rest))) : W p l e R s m args below meth c H locs cells slots Q (F0 m pc ls st0) := by
  subst hqC
  subst h1
  have hP2 := bl_sub is hC hP
  exact mu_endB rfl h1' (va_runV (C := q.1) (As := As) (rest := rest) ⟨hx, hb, hml, hown, hts⟩ (hM H.size) (cwV n hts (good4 hlk hB.2.1 hB.2.2.1 hB.2.2.2.1 (TyGood hB.1)) rfl hrc.1 hrc.2 hB.2.2.2.2 ⟨hR.1, hR.2.1⟩) ⟨mu_blind, va_recv hK.1 hP2 hc he, fun U hU hW => ⟨rfl, by rw [hU], by rw [hU]; exact hP2, hK.warm hW, (bl_subD is hnd hC hD).weaken (fun _ _ _ _ => trivial)⟩⟩ rfl hn hls hst (lv_room hroom) hdg hR.2.2) is hC hl2 hW hf2 hP hD hS hA kk
end QB
