/-! ===== constructors: a block replaced by one with new cells ===== -/
theorem bl_lt {D : va_G} {bl : List va_W} {H : Heap} (hP : va_P D vwCl bl.flatten H) {b : va_W} (hb : b ∈ bl) {q : Nat × va_E} (hq : q ∈ b) : q.1 < H.size := (va_P_mem.mp hP q (List.mem_flatten.mpr ⟨b, hb, hq⟩)).lt
theorem bl_D1 {D : va_G} {A : Nat → Prop} {bl : List va_W} {b b' : va_W} {H : Heap} {i : Nat} (hi : bl[i]? = some b) (hP : va_P D vwCl bl.flatten H) (hD : va_D A bl.flatten) (hD1 : va_D (va_A b H.size) b') (hA : ∀ q, va_A b H.size q → A q) : va_D A (bl.set i b').flatten := by
  have hpw := List.pairwise_flatten.mp (va_D_pw hD)
  have hin : ∀ q ∈ b', va_A b H.size q.1 := fun q hq => by
    obtain ⟨k, hk⟩ := List.getElem?_of_mem hq
    exact hD1.2 k q hk
  have far : ∀ (j : Nat) (c : va_W), j ≠ i → bl[j]? = some c → ∀ p ∈ b', ∀ q ∈ c, p.1 ≠ q.1 := by
    intro j c hj hc p hp q hq e
    rcases va_A_mem (hin p hp) with ⟨p0, hp0, e0⟩ | z
    · exact bl_apart hD (Ne.symm hj) hi hc hp0 hq (e0.trans e)
    · have := bl_lt hP (List.mem_of_getElem? hc) hq
      omega
  refine pw_D (List.pairwise_flatten.mpr ⟨fun c hc => ?_, ?_⟩) (fun q hq => ?_)
  · rcases List.mem_or_eq_of_mem_set hc with h | h
    · exact hpw.1 c h
    · rw [h]
      exact va_D_pw hD1
  · rw [List.pairwise_iff_getElem]
    intro j k hj hk hjk p hp q hq
    rw [List.length_set] at hj hk
    rw [List.getElem_set] at hp hq
    by_cases h1 : i = j
    · rw [if_pos h1] at hp
      rw [if_neg (by omega)] at hq
      exact far k bl[k] (by omega) (List.getElem?_eq_getElem hk) p hp q hq
    · rw [if_neg h1] at hp
      by_cases h2 : i = k
      · rw [if_pos h2] at hq
        exact fun e => far j bl[j] (by omega) (List.getElem?_eq_getElem hj) q hq p hp e.symm
      · rw [if_neg h2] at hq
        exact bl_apart hD (show j ≠ k by omega) (List.getElem?_eq_getElem hj) (List.getElem?_eq_getElem hk) hp hq
  · obtain ⟨c, hc, hq2⟩ := List.mem_flatten.mp hq
    rcases List.mem_or_eq_of_mem_set hc with h | h
    · obtain ⟨k, hk⟩ := List.getElem?_of_mem (List.mem_flatten.mpr ⟨c, h, hq2⟩)
      exact hD.2 k q hk
    · rw [h] at hq2
      exact hA _ (hin q hq2)
theorem bl_P1 {D : va_G} {A : Nat → Prop} {bl : List va_W} {b b' : va_W} {H H1 : Heap} {i : Nat} (hi : bl[i]? = some b) (hP : va_P D vwCl bl.flatten H) (hD : va_D A bl.flatten) (hP1 : va_P D vwCl b' H1) (hF : ∀ q : Nat, q < H.size → ¬ va_A b H.size q → H1[q]? = H[q]?) : va_P D vwCl (bl.set i b').flatten H1 := by
  rw [va_P_mem]
  intro q hq
  obtain ⟨c, hc, hq⟩ := List.mem_flatten.mp hq
  obtain ⟨k, hk⟩ := List.getElem?_of_mem hc
  rw [List.getElem?_set] at hk
  by_cases h : i = k
  · rw [if_pos h] at hk
    split at hk
    · cases hk
      exact va_P_mem.mp hP1 q hq
    · cases hk
  · rw [if_neg h] at hk
    have hat := va_P_mem.mp hP q (List.mem_flatten.mpr ⟨c, List.mem_of_getElem? hk, hq⟩)
    refine hat.kept (hF q.1 hat.lt (fun z => ?_))
    rcases va_A_mem z with ⟨p, hp, e⟩ | z
    · exact bl_apart hD h hi hk hp hq e
    · have := hat.lt
      omega
/-- the contract of a constructor: behind it its block, with new addresses N -/
def MKQ (D : va_G) (WSf : (Nat → Nat) → va_W) (A : Nat → Prop) : Array Value → State → Outcome → State → Prop := fun _ st oc t => (∃ N : Nat → Nat, oc = .returned none ∧ va_P D vwCl (WSf N) t.heap ∧ va_D A (WSf N)) ∧ va_F A st t
abbrev MK (l : Launch) (y : MethodName) (ws : List Cond) (rm : Room) (D : va_G) (cyC cyI cyO : ClassId) (WS : va_W) (av : List Value) (WSf : (Nat → Nat) → va_W) (mc ms : Nat) : Prop := ∀ sz : Nat, Met l y ws rm (va_Pc av (MP D cyC cyI cyO WS sz)) (MKQ D WSf (va_A WS sz)) mc ms (va_A WS sz)
section QK
variable {p : Program} {l : Launch} {e : Env} {R : Room} {s : State} {m : MethodId} {args : Array Value} {below : List Frame} {meth : Method} {c : Code} {H : Heap} {locs : List Loc} {cells slots : Nat} {Q : State → Prop}
variable {pc : Nat} {ls : Array Slot} {rest st0 : List Value} {a : Array Value} {mc ms : Nat}
theorem mk_end {D : va_G} {bl : List va_W} {b : va_W} {WSf : (Nat → Nat) → va_W} {A : Nat → Prop} {H0 : Heap} (hr : va_Run p l e R s m args below meth c H locs cells slots mc ms (F0 m pc ls st0) rest (MKQ D WSf (va_A b H.size) a) (va_A b H.size))
    (i : Nat) (hi : bl[i]? = some b) (hP : va_P D vwCl bl.flatten H) (hD : va_D A bl.flatten) (hS : va_S A H0 H locs) (hA : ∀ q, H0.size ≤ q → A q)
    (kk : ∀ (N : Nat → Nat) (H1 : Heap) (locs1 : List Loc), va_P D vwCl (bl.set i (WSf N)).flatten H1 → va_D A (bl.set i (WSf N)).flatten → va_S A H0 H1 locs1 → W p l e R s m args below meth c H1 locs1 (cells + mc) (slots + ms) Q (F0 m (pc + 3) ls rest)) : W p l e R s m args below meth c H locs cells slots Q (F0 m pc ls st0) := by
  have hfree : ∀ q, va_A b H.size q → A q := by
    intro q hq
    rcases va_A_mem hq with ⟨p0, hp0, e0⟩ | z
    · obtain ⟨k, hk⟩ := List.getElem?_of_mem (List.mem_flatten.mpr ⟨b, List.mem_of_getElem? hi, hp0⟩)
      rw [← e0]
      exact hD.2 k p0 hk
    · exact hA q (Nat.le_trans hS.1 z)
  intro T hT X
  obtain ⟨v, st₀, t, T', L, h0, X', hL, e1, e2, ⟨⟨N, hv, hp, hd⟩, hz, hk⟩, st⟩ := hr T hT X
  cases hv
  rw [h0] at hz hk
  rw [← e1] at hp hz hk
  obtain ⟨t2, a1, b1⟩ := kk N T'.heap (locs ++ L) (bl_P1 hi hP hD hp hk) (bl_D1 hi hP hD hd hfree)
    ⟨Nat.le_trans hS.1 hz, fun q h1 h2 => by rw [hk q (Nat.lt_of_lt_of_le h1 hS.1) (fun z => h2 (hfree q z))]; exact hS.2.1 q h1 h2, fun q hq => by
      rcases List.mem_append.mp hq with h | h
      · exact hS.2.2 q h
      · exact hfree _ (hL q h)⟩ T' rfl X'
  exact ⟨t2, st t2 a1, b1⟩
end QK
