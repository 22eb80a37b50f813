/-! ===== the constructors: their contracts, the rows of new cells, the calls ===== -/
/-- the end of a constructor: behind it a block of a kind, with what holds of it -/
def MKX {α : Type} (D : va_G) (WSf : α → va_W) (Pp : α → Prop) (A : Nat → Prop) : Array Value → State → Outcome → State → Prop := fun _ st oc t => (∃ x : α, Pp x ∧ oc = .returned none ∧ va_P D vwCl (WSf x) t.heap ∧ va_D A (WSf x)) ∧ va_F A st t
abbrev MPO (D : va_G) (cyC cyI cyO : ClassId) (WS : va_W) (sz : Nat) : State → Prop := fun U => MP D cyC cyI cyO WS sz U ∧ va_AO RX0 U
abbrev MKC {α : Type} (l : Launch) (y : MethodName) (ws : List Cond) (rm : Room) (D : va_G) (cyC cyI cyO : ClassId) (WS : va_W) (av : List Value) (WSf : α → va_W) (Pp : α → Prop) (mc ms : Nat) : Prop := ∀ sz : Nat, Met l y ws rm (va_Pc av (MPO D cyC cyI cyO WS sz)) (MKX D WSf Pp (va_A WS sz)) mc ms (va_A WS sz)
abbrev BI (y : MethodName) (bytes : ByteArray) (maxL n : Nat) : Prop := Cond.code y bytes maxL none ∈ TB ∧ Cond.instanceMethod y ∈ TB ∧ Cond.initialized y.cls ∈ TB ∧ y.name = "<init>" ∧ (y.cls ≠ "java/lang/invoke/MethodHandle" ∧ y.cls ≠ "java/lang/invoke/VarHandle" ∧ (parseMethodDescriptor y.desc).map (fun d => d.parameters.length) = some n)
theorem mkc_blind {D : va_G} {cyC cyI cyO : ClassId} {WS : va_W} {av : List Value} {sz : Nat} : FrameBlind (va_Pc av (MPO D cyC cyI cyO WS sz)) := fun a U g mk q => by
  obtain ⟨q0, ⟨q1, qP, qK, qD⟩, qO⟩ := q
  exact ⟨q0, ⟨q1, qP, qK.calling, qD⟩, va_AO.moved (u := U) (U := U.calling g mk a) (Vm.Alike.refl U.vm) qO⟩
theorem flat_snoc (bl : List va_W) (b : va_W) : bl.flatten ++ b = (bl ++ [b]).flatten := by
  rw [List.flatten_append, List.flatten_cons, List.flatten_nil, List.append_nil]
section QX
variable {p : Program} {l : Launch} {e : Env} {R : Room} {s : State} {m : MethodId} {args : Array Value} {below : List Frame} {meth : Method} {c : Code} {H : Heap} {locs : List Loc} {cells slots : Nat} {Q : State → Prop}
variable {pc : Nat} {ls : Array Slot} {rest st0 : List Value} {a : Array Value} {mc ms : Nat}
theorem mkx_end {α : Type} {D : va_G} {bl : List va_W} {b : va_W} {WSf : α → va_W} {Pp : α → Prop} {A : Nat → Prop} {H0 : Heap} (hr : va_Run p l e R s m args below meth c H locs cells slots mc ms (F0 m pc ls st0) rest (MKX D WSf Pp (va_A b H.size) a) (va_A b H.size))
    (i : Nat) (hi : bl[i]? = some b) (hP : va_P D vwCl bl.flatten H) (hD : va_D A bl.flatten) (hS : va_S A H0 H locs) (hA : ∀ q, H0.size ≤ q → A q)
    (kk : ∀ (x : α) (H1 : Heap) (locs1 : List Loc), Pp x → va_P D vwCl (bl.set i (WSf x)).flatten H1 → va_D A (bl.set i (WSf x)).flatten → va_S A H0 H1 locs1 → W p l e R s m args below meth c H1 locs1 (cells + mc) (slots + ms) Q (F0 m (pc + 3) ls rest)) : W p l e R s m args below meth c H locs cells slots Q (F0 m pc ls st0) := by
  have hfree : ∀ q, va_A b H.size q → A q := by
    intro q hq
    rcases va_A_mem hq with ⟨p0, hp0, e0⟩ | z
    · obtain ⟨k, hk⟩ := List.getElem?_of_mem (List.mem_flatten.mpr ⟨b, List.mem_of_getElem? hi, hp0⟩)
      rw [← e0]
      exact hD.2 k p0 hk
    · exact hA q (Nat.le_trans hS.1 z)
  intro T hT X
  obtain ⟨v, st₀, t, T', L, h0, X', hL, e1, e2, ⟨⟨x, hx, hv, hp, hd⟩, hz, hk⟩, st⟩ := hr T hT X
  cases hv
  rw [h0] at hz hk
  rw [← e1] at hp hz hk
  obtain ⟨t2, a1, b1⟩ := kk x T'.heap (locs ++ L) hx (bl_P1 hi hP hD hp hk) (bl_D1 hi hP hD hd hfree)
    ⟨Nat.le_trans hS.1 hz, fun q h1 h2 => by rw [hk q (Nat.lt_of_lt_of_le h1 hS.1) (fun z => h2 (hfree q z))]; exact hS.2.1 q h1 h2, fun q hq => by
      rcases List.mem_append.mp hq with h | h
      · exact hS.2.2 q h
      · exact hfree _ (hL q h)⟩ T' rfl X'
  exact ⟨t2, st t2 a1, b1⟩
end QX
section QY
variable {p : Program} {l : Launch} {e : Env} {R : Room} {s : State} {m : MethodId} {args : Array Value} {below : List Frame} {meth : Method} {c : Code} {H : Heap} {locs : List Loc} {cells slots : Nat} {Q : State → Prop}
variable {pc : Nat} {ls : Array Slot} {rest st0 : List Value} {mc ms : Nat} {y : MethodName} {cc bytes : ByteArray} {maxL nL n index : Nat} {rm : Room} {own : String} {b0 : Addr} {As : List Value} {D : va_G} {cyC cyI cyO : ClassId} {b : va_W} {bl : List va_W} {A : Nat → Prop} {H0 : Heap} {α : Type} {WSf : α → va_W} {Pp : α → Prop} {Ts : List Cond}
/-- a call of a constructor -/
theorem mkC (hx : p.tables.exec = Jvm.exec) (hb : c.code = cc) (hml : c.maxLocals = nL) (hown : s.vm.findClass own = some m.cls) (hts : ∀ w ∈ TB, w.before args s = true) (hls : ls.size = nL)
    (hM : MKC l y (Ty y bytes maxL none) rm D cyC cyI cyO b (.ref b0 :: As) WSf Pp mc ms) (hB : BI y bytes maxL n) (hlk : (Cond.methodLink own index y).before args s = true) (hrc : rm.cells = mc ∧ rm.slots = ms)
    (hR : rm.frames + 1 ≤ R.frames ∧ 8 + (maxL + 11) + rm.locals ≤ R.locals ∧ cells + mc ≤ R.cells ∧ slots + ms ≤ R.slots)
    (i : Nat) (hi : bl[i]? = some b) (hP : va_P D vwCl bl.flatten H) (hD : va_D A bl.flatten) (hS : va_S A H0 H locs) (hA : ∀ q, H0.size ≤ q → A q) (hK : KK D cyC cyI cyO s) (hO : va_AO RX0 s) (hn : As.length = n) (hst : st0 = As.reverse ++ .ref b0 :: rest) (hroom : (rest.map fun v => v.category).sum ≤ 8) (hdg : decode cc pc = .ok (.invokespecial index, 3))
    (kk : ∀ (x : α) (H1 : Heap) (locs1 : List Loc), Pp x → va_P D vwCl (bl.set i (WSf x)).flatten H1 → va_D A (bl.set i (WSf x)).flatten → va_S A H0 H1 locs1 → W p l e R s m args below meth c H1 locs1 (cells + mc) (slots + ms) Q (F0 m (pc + 3) ls rest)) : W p l e R s m args below meth c H locs cells slots Q (F0 m pc ls st0) := by
  have hC : [i].map (fun i => bl[i]?) = [b].map some := by rw [List.map_cons, List.map_nil, hi]; rfl
  have hPb : va_P D vwCl b H := by
    have h := bl_sub [i] hC hP
    rwa [List.flatten_cons, List.flatten_nil, List.append_nil] at h
  have hDb : va_D A b := by
    have h := bl_subD [i] rfl hC hD
    rwa [List.flatten_cons, List.flatten_nil, List.append_nil] at h
  exact mkx_end (va_runI (As := As) (rest := rest) ⟨hx, hb, hml, hown, hts⟩ (hM H.size) (cwI n hts (TyGood hB.1) rfl hrc.1 hrc.2 (hts _ hB.2.2.1) hlk (hts _ hB.2.1) hB.2.2.2.1 hB.2.2.2.2 ⟨hR.1, hR.2.1⟩) ⟨mkc_blind, fun U hU hW => ⟨rfl, ⟨by rw [hU], by rw [hU]; exact hPb, hK.warm hW, hDb.weaken (fun _ _ _ _ => trivial)⟩, hO.moved hW.alike⟩⟩ rfl hn hls hst (lv_room hroom) hdg hR.2.2) i hi hP hD hS hA kk
/-- .. of a nest mate's private one -/
theorem mkN {host : String} (hx : p.tables.exec = Jvm.exec) (hb : c.code = cc) (hml : c.maxLocals = nL) (hown : s.vm.findClass own = some m.cls) (hts : ∀ w ∈ TB, w.before args s = true) (hls : ls.size = nL)
    (hM : MKC l y (Ty y bytes maxL none) rm D cyC cyI cyO b (.ref b0 :: As) WSf Pp mc ms) (hB : BI y bytes maxL n) (hl : va_Nw (.methodLinkNest own index y host) s) (hrc : rm.cells = mc ∧ rm.slots = ms)
    (hR : rm.frames + 1 ≤ R.frames ∧ 8 + (maxL + 11) + rm.locals ≤ R.locals ∧ cells + mc ≤ R.cells ∧ slots + ms ≤ R.slots)
    (i : Nat) (hi : bl[i]? = some b) (hP : va_P D vwCl bl.flatten H) (hD : va_D A bl.flatten) (hS : va_S A H0 H locs) (hA : ∀ q, H0.size ≤ q → A q) (hK : KK D cyC cyI cyO s) (hO : va_AO RX0 s) (hn : As.length = n) (hst : st0 = As.reverse ++ .ref b0 :: rest) (hroom : (rest.map fun v => v.category).sum ≤ 8) (hdg : decode cc pc = .ok (.invokespecial index, 3))
    (kk : ∀ (x : α) (H1 : Heap) (locs1 : List Loc), Pp x → va_P D vwCl (bl.set i (WSf x)).flatten H1 → va_D A (bl.set i (WSf x)).flatten → va_S A H0 H1 locs1 → W p l e R s m args below meth c H1 locs1 (cells + mc) (slots + ms) Q (F0 m (pc + 3) ls rest)) : W p l e R s m args below meth c H locs cells slots Q (F0 m pc ls st0) := by
  have hC : [i].map (fun i => bl[i]?) = [b].map some := by rw [List.map_cons, List.map_nil, hi]; rfl
  have hPb : va_P D vwCl b H := by
    have h := bl_sub [i] hC hP
    rwa [List.flatten_cons, List.flatten_nil, List.append_nil] at h
  have hDb : va_D A b := by
    have h := bl_subD [i] rfl hC hD
    rwa [List.flatten_cons, List.flatten_nil, List.append_nil] at h
  exact mkx_end (va_runIN (As := As) (rest := rest) ⟨hx, hb, hml, hown, hts⟩ (hM H.size) ⟨va_cnB n hts (TyGood hB.1) rfl hrc.1 hrc.2 hl (hts _ hB.2.2.1) hB.2.2.2.2 ⟨hR.1, hR.2.1⟩, hB.2.2.2.1, hts _ hB.2.1⟩ ⟨mkc_blind, fun U hU hW => ⟨rfl, ⟨by rw [hU], by rw [hU]; exact hPb, hK.warm hW, hDb.weaken (fun _ _ _ _ => trivial)⟩, hO.moved hW.alike⟩⟩ rfl hn hls hst (lv_room hroom) hdg hR.2.2) i hi hP hD hS hA kk
variable {ws : va_W}
/-- a new array of ints, of chars: its class is the one of the tables -/
theorem new_int (hx : p.tables.exec = Jvm.exec) (hb : c.code = cc) (hts : ∀ w ∈ TB, w.before args s = true) (hK : KK D cyC cyI cyO s) (hP : va_P D vwCl ws H) (hD : va_D A ws) (hS : va_S A H0 H locs) (hA : ∀ q, H0.size ≤ q → A q)
    {n : Int32} {N' : Nat} (hn : ¬ n < 0) (hN : n.toNatClampNeg = N') (hbytes : N' * 4 ≤ 536870912) (hcells : cells + 1 ≤ R.cells) (hslots : slots + N' ≤ R.slots) (hdg : decode cc pc = .ok (.newarray .int, 2))
    (kk : ∀ (q : Nat) (H1 : Heap), va_P D vwCl (ws ++ [(q, .inl (cyI, N', .inl (fun _ => 0)))]) H1 → va_D A (ws ++ [(q, .inl (cyI, N', .inl (fun _ => 0)))]) → va_S A H0 H1 locs →
      W p l e R s m args below meth c H1 locs (cells + 1) (slots + N') Q (F0 m (pc + 2) ls (.ref q :: rest))) : W p l e R s m args below meth c H locs cells slots Q (F0 m pc ls (.int n :: rest)) := by
  refine va_newa (atype := .int) (ty := .int) (a0 := (N', .inl (fun _ => 0))) hx hb (hts _ wac_int) rfl hK.1 hP hD hS hA (fun cA => rfl) hn hN hbytes hcells hslots hdg (fun q cA H1 hK1 hP1 hD1 hS1 => ?_)
  have h1 : s.vm.findClass ("[" ++ (FieldType.int).toString) = some cA := (hK1.2 3 _ rfl).2
  have h2 : s.vm.findClass ("[" ++ (FieldType.int).toString) = some cyI := (hK.1.2 1 _ rfl).2
  have e1 : cA = cyI := Option.some.inj (h1.symm.trans h2)
  rw [e1] at hP1 hD1
  exact kk q H1 hP1 hD1 hS1
theorem new_char (hx : p.tables.exec = Jvm.exec) (hb : c.code = cc) (hts : ∀ w ∈ TB, w.before args s = true) (hK : KK D cyC cyI cyO s) (hP : va_P D vwCl ws H) (hD : va_D A ws) (hS : va_S A H0 H locs) (hA : ∀ q, H0.size ≤ q → A q)
    {n : Int32} {N' : Nat} (hn : ¬ n < 0) (hN : n.toNatClampNeg = N') (hbytes : N' * 2 ≤ 536870912) (hcells : cells + 1 ≤ R.cells) (hslots : slots + N' ≤ R.slots) (hdg : decode cc pc = .ok (.newarray .char, 2))
    (kk : ∀ (q : Nat) (H1 : Heap), va_P D vwCl (ws ++ [(q, .inl (cyC, N', .inl (fun _ => 0)))]) H1 → va_D A (ws ++ [(q, .inl (cyC, N', .inl (fun _ => 0)))]) → va_S A H0 H1 locs →
      W p l e R s m args below meth c H1 locs (cells + 1) (slots + N') Q (F0 m (pc + 2) ls (.ref q :: rest))) : W p l e R s m args below meth c H locs cells slots Q (F0 m pc ls (.int n :: rest)) := by
  refine va_newa (atype := .char) (ty := .char) (a0 := (N', .inl (fun _ => 0))) hx hb (hts _ wac_char) rfl hK.1 hP hD hS hA (fun cA => rfl) hn hN hbytes hcells hslots hdg (fun q cA H1 hK1 hP1 hD1 hS1 => ?_)
  have h1 : s.vm.findClass ("[" ++ (FieldType.char).toString) = some cA := (hK1.2 3 _ rfl).2
  have h2 : s.vm.findClass ("[" ++ (FieldType.char).toString) = some cyC := (hK.1.2 0 _ rfl).2
  have e1 : cA = cyC := Option.some.inj (h1.symm.trans h2)
  rw [e1] at hP1 hD1
  exact kk q H1 hP1 hD1 hS1
theorem new_city (hx : p.tables.exec = Jvm.exec) (hb : c.code = cc) {own2 : String} (hown : s.vm.findClass own2 = some m.cls) (hcl : (Cond.classLink own2 index RX0).before args s = true) (hO : va_AO RX0 s) (hK : KK D cyC cyI cyO s) (hP : va_P D vwCl ws H) (hD : va_D A ws) (hS : va_S A H0 H locs) (hA : ∀ q, H0.size ≤ q → A q)
    {n : Int32} {N' : Nat} (hn : ¬ n < 0) (hN : n.toNatClampNeg = N') (hbytes : N' * 4 ≤ 536870912) (hcells : cells + 1 ≤ R.cells) (hslots : slots + N' ≤ R.slots) (hdg : decode cc pc = .ok (.anewarray index, 3))
    (kk : ∀ (q : Nat) (H1 : Heap), va_P D vwCl (ws ++ [(q, .inl (cyO, N', .inr (.inr (.inr (.inr (fun _ => none))))))]) H1 → va_D A (ws ++ [(q, .inl (cyO, N', .inr (.inr (.inr (.inr (fun _ => none))))))]) → va_S A H0 H1 locs →
      W p l e R s m args below meth c H1 locs (cells + 1) (slots + N') Q (F0 m (pc + 3) ls (.ref q :: rest))) : W p l e R s m args below meth c H locs cells slots Q (F0 m pc ls (.int n :: rest)) := by
  refine va_newq hx hb hown hcl hO hK.1 hP hD hS hA hn hN hbytes hcells hslots hdg (fun q cA H1 hK1 hP1 hD1 hS1 => ?_)
  obtain ⟨-, -, -, -, -, h1⟩ := (hK1.2 3 _ rfl).2
  obtain ⟨-, -, -, -, -, h2⟩ := (hK.1.2 2 _ rfl).2
  have e1 : cA = cyO := Option.some.inj (h1.symm.trans h2)
  rw [e1] at hP1 hD1
  exact kk q H1 hP1 hD1 hS1
end QY
