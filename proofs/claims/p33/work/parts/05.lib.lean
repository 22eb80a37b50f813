/-! ===== my own library: nest words, the two kinds of contract (read only: RO; one that writes: MU), their calls ===== -/
abbrev tyL (cyC cyI cyO : ClassId) : List (ClassId × FieldType) := [(cyC, .char), (cyI, .int), (cyO, .object "RoofOrdinances$City")]
def NK (U : State) : Prop := va_Nw (.methodLinkNest RX0 92 yX6_isIn RX6) U ∧ va_Nw (.methodLinkNest RX4 9 yX6_isWithin RX6) U ∧ va_Nw (.methodLinkNest RX4 29 yX6_isIn RX6) U ∧ va_Nw (.methodLinkNest RX3 19 yX6_isWithin RX6) U ∧ va_Nw (.methodLinkNest RX2 60 yX6_isOwner RX6) U ∧ va_Nw (.methodLinkNest RX2 76 yX6_isRoof RX6) U ∧ va_Nw (.methodLinkNest RX5 73 yX6_isIn RX6) U ∧ va_Nw (.methodLinkNest RX6 31 yX5_init RX6) U ∧ va_Nw (.methodLinkNest RX6 38 yX3_init RX6) U
theorem NK.warm {s U : State} (hW : s.WarmedH U.vm) (h : NK s) : NK U := by
  obtain ⟨h1, h2, h3, h4, h5, h6, h7, h8, h9⟩ := h
  exact ⟨h1.warmM hW, h2.warmM hW, h3.warmM hW, h4.warmM hW, h5.warmM hW, h6.warmM hW, h7.warmM hW, h8.warmM hW, h9.warmM hW⟩
theorem NK.same {u U : State} (hv : u.vm = U.vm) (h : NK u) : NK U := by
  obtain ⟨h1, h2, h3, h4, h5, h6, h7, h8, h9⟩ := h
  exact ⟨h1.same rfl hv, h2.same rfl hv, h3.same rfl hv, h4.same rfl hv, h5.same rfl hv, h6.same rfl hv, h7.same rfl hv, h8.same rfl hv, h9.same rfl hv⟩
def KK (D : va_G) (cyC cyI cyO : ClassId) (U : State) : Prop := va_K D vwCl (tyL cyC cyI cyO) U ∧ NK U
theorem KK.warm {D : va_G} {cyC cyI cyO : ClassId} {s U : State} (hW : s.WarmedH U.vm) (h : KK D cyC cyI cyO s) : KK D cyC cyI cyO U := ⟨va_K.moved hW.alike h.1, h.2.warm hW⟩
theorem KK.calling {D : va_G} {cyC cyI cyO : ClassId} {U : State} {g : JFrame} {mk : MethodId} {a : Array Value} (h : KK D cyC cyI cyO U) : KK D cyC cyI cyO (U.calling g mk a) := ⟨va_K.moved (u := U) (U := U.calling g mk a) (Vm.Alike.refl U.vm) h.1, h.2.same rfl⟩
/-- the start of a method: its world, the tables -/
abbrev RP (D : va_G) (cyC cyI cyO : ClassId) (WS : va_W) : State → Prop := fun U => va_P D vwCl WS U.heap ∧ KK D cyC cyI cyO U
abbrev MP (D : va_G) (cyC cyI cyO : ClassId) (WS : va_W) (sz : Nat) : State → Prop := fun U => U.heap.size = sz ∧ va_P D vwCl WS U.heap ∧ KK D cyC cyI cyO U ∧ va_D (fun _ => True) WS
/-- read only: the answer r, nothing changed -/
abbrev Ty (y : MethodName) (bytes : ByteArray) (maxL : Nat) (ret : Option FieldType) : List Cond := Cond.code y bytes maxL ret :: TB
abbrev BV (C : String) (y : MethodName) (bytes : ByteArray) (maxL : Nat) (ret : Option FieldType) (n : Nat) : Prop := Cond.code y bytes maxL ret ∈ TB ∧ Cond.instanceMethod y ∈ TB ∧ Cond.selects C y y ∈ TB ∧ Cond.initialized C ∈ TB ∧ (y.cls = C ∧ y.cls ≠ "java/lang/invoke/MethodHandle" ∧ y.cls ≠ "java/lang/invoke/VarHandle" ∧ (parseMethodDescriptor y.desc).map (fun d => d.parameters.length) = some n)
abbrev BS (y : MethodName) (bytes : ByteArray) (maxL : Nat) (ret : Option FieldType) (n : Nat) : Prop := Cond.code y bytes maxL ret ∈ TB ∧ Cond.static y ∈ TB ∧ Cond.initialized y.cls ∈ TB ∧ (y.cls ≠ "java/lang/invoke/MethodHandle" ∧ y.cls ≠ "java/lang/invoke/VarHandle" ∧ (parseMethodDescriptor y.desc).map (fun d => d.parameters.length) = some n)
theorem TyGood {y : MethodName} {bytes : ByteArray} {maxL : Nat} {ret : Option FieldType} (hc : Cond.code y bytes maxL ret ∈ TB) : GoodIn TB (Ty y bytes maxL ret) := fun w h => by
  rcases List.mem_cons.mp h with h | h
  · subst h
    exact ⟨hc, TB_good hc⟩
  · exact ⟨h, TB_good h⟩
theorem good4 {w1 w2 w3 w4 : Cond} {ws : List Cond} (h1 : w1 ∈ TB) (h2 : w2 ∈ TB) (h3 : w3 ∈ TB) (h4 : w4 ∈ TB) (h : GoodIn TB ws) : GoodIn TB ([w1, w2, w3, w4] ++ ws) := fun w hw => by
  rcases List.mem_append.mp hw with q | q
  · have q2 : w ∈ TB := by
      simp only [List.mem_cons, List.not_mem_nil, or_false] at q
      rcases q with q | q | q | q <;> subst q <;> assumption
    exact ⟨q2, TB_good q2⟩
  · exact h w q
theorem good3 {w1 w2 w3 : Cond} {ws : List Cond} (h1 : w1 ∈ TB) (h2 : w2 ∈ TB) (h3 : w3 ∈ TB) (h : GoodIn TB ws) : GoodIn TB ([w1, w2, w3] ++ ws) := fun w hw => by
  rcases List.mem_append.mp hw with q | q
  · have q2 : w ∈ TB := by
      simp only [List.mem_cons, List.not_mem_nil, or_false] at q
      rcases q with q | q | q <;> subst q <;> assumption
    exact ⟨q2, TB_good q2⟩
  · exact h w q
abbrev RO (l : Launch) (y : MethodName) (ws : List Cond) (rm : Room) (D : va_G) (cyC cyI cyO : ClassId) (WS : va_W) (av : List Value) (r : Int32) : Prop := Met l y ws rm (va_Pc av (RP D cyC cyI cyO WS)) (vp_Si (fun x => x = r)) 0 0 (fun _ => False)
/-- the end of a method that writes: its answer, its world behind it -/
def MQQ (ro : Option Value) (D : va_G) (WS' : va_W) (A : Nat → Prop) : Array Value → State → Outcome → State → Prop := fun _ st oc t => (oc = .returned ro ∧ va_P D vwCl WS' t.heap) ∧ va_F A st t
abbrev MU (l : Launch) (y : MethodName) (ws : List Cond) (rm : Room) (D : va_G) (cyC cyI cyO : ClassId) (WS : va_W) (av : List Value) (ro : Option Value) (WS' : va_W) : Prop := ∀ sz : Nat, Met l y ws rm (va_Pc av (MP D cyC cyI cyO WS sz)) (MQQ ro D WS' (va_A WS sz)) 0 0 (va_A WS sz)
theorem ro_blind {D : va_G} {cyC cyI cyO : ClassId} {WS : va_W} {av : List Value} : FrameBlind (va_Pc av (RP D cyC cyI cyO WS)) := fun a U g mk q => by
  obtain ⟨q0, qP, qK⟩ := q
  exact ⟨q0, qP, qK.calling⟩
theorem mu_blind {D : va_G} {cyC cyI cyO : ClassId} {WS : va_W} {av : List Value} {sz : Nat} : FrameBlind (va_Pc av (MP D cyC cyI cyO WS sz)) := fun a U g mk q => by
  obtain ⟨q0, q1, qP, qK, qD⟩ := q
  exact ⟨q0, q1, qP, qK.calling, qD⟩
/-- places of a world written anew -/
def putL : va_W → List Nat → va_W → va_W
  | ws, i :: is, x :: w1 => putL (ws.set i x) is w1
  | ws, _, _ => ws
theorem putL_get : ∀ (is : List Nat) (w1 ws : va_W) (k : Nat) (q : Nat × va_E), (putL ws is w1)[k]? = some q → is.length = w1.length → q ∈ w1 ∨ (ws[k]? = some q ∧ k ∉ is)
  | [], [], ws, k, q, h, _ => Or.inr ⟨h, List.not_mem_nil⟩
  | [], _ :: _, _, _, _, _, hl => by simp at hl
  | _ :: _, [], _, _, _, _, hl => by simp at hl
  | i :: is, x :: w1, ws, k, q, h, hl => by
    rcases putL_get is w1 (ws.set i x) k q h (by simpa using hl) with h1 | ⟨h1, h2⟩
    · exact Or.inl (List.mem_cons_of_mem _ h1)
    · by_cases hk : k = i
      · subst hk
        rw [List.getElem?_set] at h1
        simp only [if_true] at h1
        split at h1
        · cases h1
          exact Or.inl List.mem_cons_self
        · cases h1
      · rw [List.getElem?_set_ne (Ne.symm hk)] at h1
        exact Or.inr ⟨h1, fun z => (List.mem_cons.mp z).elim hk h2⟩
theorem va_D_fst {A : Nat → Prop} {ws ws' : va_W} (hD : va_D A ws) (h : ws'.map Prod.fst = ws.map Prod.fst) : va_D A ws' := by
  have key : ∀ (k : Nat) (q : Nat × va_E), ws'[k]? = some q → ∃ q0, ws[k]? = some q0 ∧ q0.1 = q.1 := by
    intro k q hk
    have h1 : (ws'.map Prod.fst)[k]? = some q.1 := by rw [List.getElem?_map, hk]; rfl
    rw [h, List.getElem?_map] at h1
    cases hw : ws[k]? with
    | none => rw [hw] at h1; cases h1
    | some q0 => rw [hw] at h1; exact ⟨q0, rfl, Option.some.inj h1⟩
  refine ⟨fun i j p q hi hj hpq => ?_, fun k q hk => ?_⟩
  · obtain ⟨p0, a1, a2⟩ := key i p hi
    obtain ⟨q0, b1, b2⟩ := key j q hj
    exact hD.1 i j p0 q0 a1 b1 (by rw [a2, b2, hpq])
  · obtain ⟨q0, a1, a2⟩ := key k q hk
    rw [← a2]
    exact hD.2 k q0 a1
/-- behind a call that wrote: the world with the callee's places written anew -/
theorem jn {D : va_G} {ws WS WS' ws' : va_W} {A : Nat → Prop} {H H1 : Heap} (is : List Nat) (hC : is.map (fun i => ws[i]?) = WS.map some) (hf : WS'.map Prod.fst = WS.map Prod.fst) (hW : putL ws is WS' = ws') (hP : va_P D vwCl ws H) (hD : va_D A ws) (hP1 : va_P D vwCl WS' H1) (hF : ∀ q : Nat, q < H.size → ¬ va_A WS H.size q → H1[q]? = H[q]?) : va_P D vwCl ws' H1 := by
  subst hW
  have hl : is.length = WS'.length := by
    have h1 := congrArg List.length hC
    have h2 := congrArg List.length hf
    simp only [List.length_map] at h1 h2
    omega
  have at' : ∀ (k : Nat) (q : Nat × va_E), WS[k]? = some q → ∃ i, is[k]? = some i ∧ ws[i]? = some q := by
    intro k q hq
    have h1 : (is.map (fun i => ws[i]?))[k]? = some (some q) := by rw [hC, List.getElem?_map, hq]; rfl
    rw [List.getElem?_map] at h1
    cases hi : is[k]? with
    | none => rw [hi] at h1; cases h1
    | some i => rw [hi] at h1; exact ⟨i, rfl, Option.some.inj h1⟩
  intro k q hk
  rcases putL_get is WS' ws k q hk hl with h | ⟨h1, h2⟩
  · obtain ⟨i, hi⟩ := List.getElem?_of_mem h
    exact hP1 i q hi
  · have hlt := (hP k q h1).lt
    refine (hP k q h1).kept (hF q.1 hlt (fun z => ?_))
    rcases z with ⟨k2, e, z⟩ | z
    · obtain ⟨j, h3, h4⟩ := at' k2 (q.1, e) z
      have hij := hD.1 k j q (q.1, e) h1 h4 rfl
      subst hij
      exact h2 (List.mem_of_getElem? h3)
    · omega
theorem sub_of_map {ws WS : va_W} (is : List Nat) (hC : is.map (fun i => ws[i]?) = WS.map some) : is.filterMap (fun i => ws[i]?) = WS := by
  have : ∀ (is : List Nat) (WS : va_W), is.map (fun i => ws[i]?) = WS.map some → is.filterMap (fun i => ws[i]?) = WS := by
    intro is
    induction is with
    | nil => intro WS h; cases WS with
      | nil => rfl
      | cons a b => simp at h
    | cons i is ih => intro WS h; cases WS with
      | nil => simp at h
      | cons a b =>
        simp only [List.map_cons, List.cons.injEq] at h
        rw [List.filterMap_cons, h.1, ih b h.2]
  exact this is WS hC
section QC
variable {p : Program} {l : Launch} {e : Env} {R : Room} {s : State} {m : MethodId} {args : Array Value} {below : List Frame} {meth : Method} {c : Code} {H : Heap} {locs : List Loc} {cells slots : Nat} {Q : State → Prop}
variable {pc : Nat} {ls : Array Slot} {rest st0 : List Value} {a : Array Value}
theorem ro_end {r : Int32} (hr : va_Run p l e R s m args below meth c H locs cells slots 0 0 (F0 m pc ls st0) rest (vp_Si (fun x => x = r) a) (fun _ => False))
    (kk : W p l e R s m args below meth c H locs cells slots Q (F0 m (pc + 3) ls (.int r :: rest))) : W p l e R s m args below meth c H locs cells slots Q (F0 m pc ls st0) := by
  intro T hT X
  obtain ⟨v, st₀, t, T', L, h0, X', hL, e1, e2, ⟨r', hv, hp, hh⟩, st⟩ := hr T hT X
  cases hv
  subst hp
  obtain ⟨t2, a1, b1⟩ := kk T' (by rw [e1, hh, h0]) (Stand.forget X' (fun q h => (hL q h).elim))
  exact ⟨t2, st t2 a1, b1⟩
theorem mu_end {ro : Option Value} {D : va_G} {ws WS WS' ws' : va_W} {A : Nat → Prop} {H0 : Heap} (hr : va_Run p l e R s m args below meth c H locs cells slots 0 0 (F0 m pc ls st0) rest (MQQ ro D WS' (va_A WS H.size) a) (va_A WS H.size))
    (is : List Nat) (hC : is.map (fun i => ws[i]?) = WS.map some) (hf : WS'.map Prod.fst = WS.map Prod.fst) (hW : putL ws is WS' = ws') (hf2 : ws'.map Prod.fst = ws.map Prod.fst) (hP : va_P D vwCl ws H) (hD : va_D A ws) (hS : va_S A H0 H locs) (hA : ∀ q, H0.size ≤ q → A q)
    (kk : ∀ (H1 : Heap) (locs1 : List Loc), va_P D vwCl ws' H1 → va_D A ws' → va_S A H0 H1 locs1 → W p l e R s m args below meth c H1 locs1 cells slots Q (F0 m (pc + 3) ls (ro.toList ++ rest))) : W p l e R s m args below meth c H locs cells slots Q (F0 m pc ls st0) := by
  have hfree : ∀ q, va_A WS H.size q → A q := va_free hD hS hA is hC
  intro T hT X
  obtain ⟨v, st₀, t, T', L, h0, X', hL, e1, e2, ⟨⟨hv, hp⟩, hz, hk⟩, st⟩ := hr T hT X
  cases hv
  rw [h0] at hz hk
  rw [← e1] at hp hz hk
  obtain ⟨t2, a1, b1⟩ := kk T'.heap (locs ++ L) (jn is hC hf hW hP hD hp hk) (va_D_fst hD hf2)
    ⟨Nat.le_trans hS.1 hz, fun q h1 h2 => by rw [hk q (Nat.lt_of_lt_of_le h1 hS.1) (fun z => h2 (hfree q z))]; exact hS.2.1 q h1 h2, fun q hq => by
      rcases List.mem_append.mp hq with h | h
      · exact hS.2.2 q h
      · exact hfree _ (hL q h)⟩ T' rfl X'
  exact ⟨t2, st t2 a1, b1⟩
end QC
section QR
variable {p : Program} {l : Launch} {e : Env} {R : Room} {s : State} {m : MethodId} {args : Array Value} {below : List Frame} {meth : Method} {c : Code} {H : Heap} {locs : List Loc} {cells slots : Nat} {Q : State → Prop}
variable {pc : Nat} {ls : Array Slot} {rest st0 : List Value} {y : MethodName} {cc bytes : ByteArray} {maxL nL n index : Nat} {ret : Option FieldType} {rm : Room} {own C : String} {b : Addr} {As : List Value} {D : va_G} {cyC cyI cyO : ClassId} {ws WS WS' ws' : va_W} {r : Int32} {ro : Option Value} {A : Nat → Prop} {H0 : Heap}
/-- a call of a static method that reads only -/
theorem rS (hx : p.tables.exec = Jvm.exec) (hb : c.code = cc) (hml : c.maxLocals = nL) (hown : s.vm.findClass own = some m.cls) (hts : ∀ w ∈ TB, w.before args s = true) (hls : ls.size = nL)
    (hM : RO l y (Ty y bytes maxL ret) rm D cyC cyI cyO WS As r) (hB : BS y bytes maxL ret n) (hlk : Cond.methodLink own index y ∈ TB) (hrc : rm.cells = 0 ∧ rm.slots = 0)
    (hR : rm.frames + 1 ≤ R.frames ∧ 8 + (maxL + 11) + rm.locals ≤ R.locals ∧ cells ≤ R.cells ∧ slots ≤ R.slots)
    (is : List Nat) (hC : is.map (fun i => ws[i]?) = WS.map some) (hP : va_P D vwCl ws H) (hK : KK D cyC cyI cyO s) (hn : As.length = n) (hst : st0 = As.reverse ++ rest) (hroom : (rest.map fun v => v.category).sum ≤ 8) (hdg : decode cc pc = .ok (.invokestatic index, 3))
    (kk : W p l e R s m args below meth c H locs cells slots Q (F0 m (pc + 3) ls (.int r :: rest))) : W p l e R s m args below meth c H locs cells slots Q (F0 m pc ls st0) :=
  ro_end (va_runS (As := As) (rest := rest) ⟨hx, hb, hml, hown, hts⟩ hM (va_cwS n hts (good3 hlk hB.2.1 hB.2.2.1 (TyGood hB.1)) rfl hrc.1 hrc.2 hB.2.2.2 ⟨hR.1, hR.2.1⟩) ⟨ro_blind, fun U hU hW => ⟨rfl, by rw [hU]; exact hP.sub is (sub_of_map is hC), hK.warm hW⟩⟩ rfl hn hls hst (lv_room hroom) hdg hR.2.2) kk
/-- .. of a virtual or private one -/
theorem rV (hx : p.tables.exec = Jvm.exec) (hb : c.code = cc) (hml : c.maxLocals = nL) (hown : s.vm.findClass own = some m.cls) (hts : ∀ w ∈ TB, w.before args s = true) (hls : ls.size = nL)
    (hM : RO l y (Ty y bytes maxL ret) rm D cyC cyI cyO WS (.ref b :: As) r) (hB : BV C y bytes maxL ret n) (hlk : Cond.methodLink own index y ∈ TB) (hrc : rm.cells = 0 ∧ rm.slots = 0)
    (hR : rm.frames + 1 ≤ R.frames ∧ 8 + (maxL + 11) + rm.locals ≤ R.locals ∧ cells ≤ R.cells ∧ slots ≤ R.slots)
    (is : List Nat) (hC : is.map (fun i => ws[i]?) = WS.map some) (hP : va_P D vwCl ws H) (hK : KK D cyC cyI cyO s) (q0 : Nat) {ci : Nat} {fs : List Value} {q : vw_C} (he : ws[q0]? = some (b, .inr (ci, fs))) (hc : vwCl[ci]? = some q) (hqC : q.1 = C) (hn : As.length = n) (hst : st0 = As.reverse ++ .ref b :: rest) (hroom : (rest.map fun v => v.category).sum ≤ 8) (hdg : decode cc pc = .ok (.invokevirtual index, 3))
    (kk : W p l e R s m args below meth c H locs cells slots Q (F0 m (pc + 3) ls (.int r :: rest))) : W p l e R s m args below meth c H locs cells slots Q (F0 m pc ls st0) := by
  subst hqC
  exact ro_end (va_runV (C := q.1) (As := As) (rest := rest) ⟨hx, hb, hml, hown, hts⟩ hM (cwV n hts (good4 hlk hB.2.1 hB.2.2.1 hB.2.2.2.1 (TyGood hB.1)) rfl hrc.1 hrc.2 hB.2.2.2.2 ⟨hR.1, hR.2.1⟩) ⟨ro_blind, va_recv hK.1 hP hc he, fun U hU hW => ⟨rfl, by rw [hU]; exact hP.sub is (sub_of_map is hC), hK.warm hW⟩⟩ rfl hn hls hst (lv_room hroom) hdg hR.2.2) kk
/-- .. of a nest mate's private static one -/
theorem rN {host : String} (hx : p.tables.exec = Jvm.exec) (hb : c.code = cc) (hml : c.maxLocals = nL) (hown : s.vm.findClass own = some m.cls) (hts : ∀ w ∈ TB, w.before args s = true) (hls : ls.size = nL)
    (hM : RO l y (Ty y bytes maxL ret) rm D cyC cyI cyO WS As r) (hB : BS y bytes maxL ret n) (hl : va_Nw (.methodLinkNest own index y host) s) (hrc : rm.cells = 0 ∧ rm.slots = 0)
    (hR : rm.frames + 1 ≤ R.frames ∧ 8 + (maxL + 11) + rm.locals ≤ R.locals ∧ cells ≤ R.cells ∧ slots ≤ R.slots)
    (is : List Nat) (hC : is.map (fun i => ws[i]?) = WS.map some) (hP : va_P D vwCl ws H) (hK : KK D cyC cyI cyO s) (hn : As.length = n) (hst : st0 = As.reverse ++ rest) (hroom : (rest.map fun v => v.category).sum ≤ 8) (hdg : decode cc pc = .ok (.invokestatic index, 3))
    (kk : W p l e R s m args below meth c H locs cells slots Q (F0 m (pc + 3) ls (.int r :: rest))) : W p l e R s m args below meth c H locs cells slots Q (F0 m pc ls st0) :=
  ro_end (va_runSN (As := As) (rest := rest) ⟨hx, hb, hml, hown, hts⟩ hM ⟨va_cnB n hts (TyGood hB.1) rfl hrc.1 hrc.2 hl (hts _ hB.2.2.1) hB.2.2.2 ⟨hR.1, hR.2.1⟩, hts _ hB.2.1, trivial⟩ ⟨ro_blind, fun U hU hW => ⟨rfl, by rw [hU]; exact hP.sub is (sub_of_map is hC), hK.warm hW⟩⟩ rfl hn hls hst (lv_room hroom) hdg hR.2.2) kk
/-- a call of a virtual or private method that writes -/
theorem mV (hx : p.tables.exec = Jvm.exec) (hb : c.code = cc) (hml : c.maxLocals = nL) (hown : s.vm.findClass own = some m.cls) (hts : ∀ w ∈ TB, w.before args s = true) (hls : ls.size = nL)
    (hM : MU l y (Ty y bytes maxL ret) rm D cyC cyI cyO WS (.ref b :: As) ro WS') (hB : BV C y bytes maxL ret n) (hlk : Cond.methodLink own index y ∈ TB) (hrc : rm.cells = 0 ∧ rm.slots = 0)
    (hR : rm.frames + 1 ≤ R.frames ∧ 8 + (maxL + 11) + rm.locals ≤ R.locals ∧ cells ≤ R.cells ∧ slots ≤ R.slots)
    (is : List Nat) (hnd : va_nd is = true) (hC : is.map (fun i => ws[i]?) = WS.map some) (hf : WS'.map Prod.fst = WS.map Prod.fst) (hW : putL ws is WS' = ws') (hf2 : ws'.map Prod.fst = ws.map Prod.fst) (hP : va_P D vwCl ws H) (hD : va_D A ws) (hS : va_S A H0 H locs) (hA : ∀ q, H0.size ≤ q → A q) (hK : KK D cyC cyI cyO s) (q0 : Nat) {ci : Nat} {fs : List Value} {q : vw_C} (he : ws[q0]? = some (b, .inr (ci, fs))) (hc : vwCl[ci]? = some q) (hqC : q.1 = C) (hn : As.length = n) (hst : st0 = As.reverse ++ .ref b :: rest) (hroom : (rest.map fun v => v.category).sum ≤ 8) (hdg : decode cc pc = .ok (.invokevirtual index, 3))
    (kk : ∀ (H1 : Heap) (locs1 : List Loc), va_P D vwCl ws' H1 → va_D A ws' → va_S A H0 H1 locs1 → W p l e R s m args below meth c H1 locs1 cells slots Q (F0 m (pc + 3) ls (ro.toList ++ rest))) : W p l e R s m args below meth c H locs cells slots Q (F0 m pc ls st0) := by
  subst hqC
  exact mu_end (va_runV (C := q.1) (As := As) (rest := rest) ⟨hx, hb, hml, hown, hts⟩ (hM H.size) (cwV n hts (good4 hlk hB.2.1 hB.2.2.1 hB.2.2.2.1 (TyGood hB.1)) rfl hrc.1 hrc.2 hB.2.2.2.2 ⟨hR.1, hR.2.1⟩) ⟨mu_blind, va_recv hK.1 hP hc he, fun U hU hW => ⟨rfl, by rw [hU], by rw [hU]; exact hP.sub is (sub_of_map is hC), hK.warm hW, (hD.sub is hnd hC).weaken (fun _ _ _ _ => trivial)⟩⟩ rfl hn hls hst (lv_room hroom) hdg hR.2.2) is hC hf hW hf2 hP hD hS hA kk
/-- .. of a static one that writes -/
theorem mS (hx : p.tables.exec = Jvm.exec) (hb : c.code = cc) (hml : c.maxLocals = nL) (hown : s.vm.findClass own = some m.cls) (hts : ∀ w ∈ TB, w.before args s = true) (hls : ls.size = nL)
    (hM : MU l y (Ty y bytes maxL ret) rm D cyC cyI cyO WS As ro WS') (hB : BS y bytes maxL ret n) (hlk : Cond.methodLink own index y ∈ TB) (hrc : rm.cells = 0 ∧ rm.slots = 0)
    (hR : rm.frames + 1 ≤ R.frames ∧ 8 + (maxL + 11) + rm.locals ≤ R.locals ∧ cells ≤ R.cells ∧ slots ≤ R.slots)
    (is : List Nat) (hnd : va_nd is = true) (hC : is.map (fun i => ws[i]?) = WS.map some) (hf : WS'.map Prod.fst = WS.map Prod.fst) (hW : putL ws is WS' = ws') (hf2 : ws'.map Prod.fst = ws.map Prod.fst) (hP : va_P D vwCl ws H) (hD : va_D A ws) (hS : va_S A H0 H locs) (hA : ∀ q, H0.size ≤ q → A q) (hK : KK D cyC cyI cyO s) (hn : As.length = n) (hst : st0 = As.reverse ++ rest) (hroom : (rest.map fun v => v.category).sum ≤ 8) (hdg : decode cc pc = .ok (.invokestatic index, 3))
    (kk : ∀ (H1 : Heap) (locs1 : List Loc), va_P D vwCl ws' H1 → va_D A ws' → va_S A H0 H1 locs1 → W p l e R s m args below meth c H1 locs1 cells slots Q (F0 m (pc + 3) ls (ro.toList ++ rest))) : W p l e R s m args below meth c H locs cells slots Q (F0 m pc ls st0) :=
  mu_end (va_runS (As := As) (rest := rest) ⟨hx, hb, hml, hown, hts⟩ (hM H.size) (va_cwS n hts (good3 hlk hB.2.1 hB.2.2.1 (TyGood hB.1)) rfl hrc.1 hrc.2 hB.2.2.2 ⟨hR.1, hR.2.1⟩) ⟨mu_blind, fun U hU hW => ⟨rfl, by rw [hU], by rw [hU]; exact hP.sub is (sub_of_map is hC), hK.warm hW, (hD.sub is hnd hC).weaken (fun _ _ _ _ => trivial)⟩⟩ rfl hn hls hst (lv_room hroom) hdg hR.2.2) is hC hf hW hf2 hP hD hS hA kk
end QR
/-- a loop counted up: what n turns make of x -/
def fo {α : Type} (f : Nat → α → α) (x : α) : Nat → α
  | 0 => x
  | n + 1 => f n (fo f x n)
theorem fo_s {α : Type} (f : Nat → α → α) (x : α) (n : Nat) : fo f x (n + 1) = f n (fo f x n) := rfl
theorem nle_of {C : Int32} {N i : Nat} (hC : C = nI N) (h : i < N) (hN : N < 2 ^ 31) : ¬ C ≤ nI i := by rw [hC]; exact nI_ge h hN
theorem le_of {C : Int32} {N : Nat} (hC : C = nI N) : C ≤ nI N := by rw [hC]; exact Int32.le_refl _
