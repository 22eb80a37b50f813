set_option maxHeartbeats 4000000 in
set_option maxRecDepth 100000 in
theorem whole_start {p : Program} {e : Env} {s : State} {m : MethodId} {below : List Frame} {meth : Method} {c : Code} (l : Launch) (hflags : l.flags = flags0) {b L : Nat} {xs : Nat → Int32} (hL : L ≤ 2560) (C0 : lw_At p s m meth c b L xs) : W p l e room_1 s m #[Value.ref b] below meth c s.heap [] 0 0 (lw_Z below #[Value.ref b] s) (entryFrame m ([Value.ref b] : List Value).toArray 8) := by
  obtain ⟨hx, hb, hr, hml, hown, hts0, hX, hbl, hlocks, hgv⟩ := id C0
  have hts : ∀ w ∈ TB, w.before #[Value.ref b] s = true := fun w h => hts0 w (List.mem_filter.mp h).1
  have hA : ∀ q : Nat, s.heap.size ≤ q → (fun q : Nat => s.heap.size ≤ q) q := fun _ h => h
  obtain ⟨D, cyC, cyI, cyO, hK, hO⟩ := kk0 hts0
  have hown : s.vm.findClass RL = some m.cls := hown
  have hS : va_S (fun q : Nat => s.heap.size ≤ q) s.heap s.heap [] := va_S.rf
  have hP : va_P D vwCl [] s.heap := fun k q h => by simp at h
  have hD : va_D (fun q : Nat => s.heap.size ≤ q) [] := ⟨fun i j p q h => by simp at h, fun k q h => by simp at h⟩
  have hl := lv_entry ([.ref b]) (n := 8) (Nat.le_of_ble_eq_true rfl)
  rw [lg_entry_eq]
  generalize (lg_sl ([.ref b]) ++ List.replicate (8 - (lg_sl ([.ref b])).length) Slot.unset).toArray = ls at hl ⊢
  have hl : lv_has ls 8 [(0, .ref b)] := hl
  refine va_new (ci := 5) (fs := zX6) (C := RX6) (T := TX6) (N := 12) hx hb hts inT_X6 tyX6 tyX6_ok hown (hts _ wcl_RL_7) (hts _ wis_RX6) (hts _ win_RX6) hK.1 hP hD hS hA rfl zX6_ok (Nat.le_of_ble_eq_true rfl) (Nat.le_of_ble_eq_true rfl) dL_law_0 (fun p0 H hP hD hS => ?_)
  have hP : va_P D vwCl (List.flatten [[(p0, .inr (5, zX6))]]) H := hP
  have hD : va_D (fun q : Nat => s.heap.size ≤ q) (List.flatten [[(p0, .inr (5, zX6))]]) := hD
  refine lv_dup hx hb dL_law_3 rfl ?_
  refine mkC (bl := [[(p0, .inr (5, zX6))]]) (b := [(p0, .inr (5, zX6))]) (b0 := p0) (As := []) (rest := [.ref p0]) hx hb hml hown hts hl.1 (kX6_init l D cyC cyI cyO p0) bI_X6_init (hts _ wml_RL_9) ⟨rfl, rfl⟩ ⟨Nat.le_of_ble_eq_true rfl, Nat.le_of_ble_eq_true rfl, Nat.le_of_ble_eq_true rfl, Nat.le_of_ble_eq_true rfl⟩ 0 rfl hP hD hS hA hK hO rfl rfl (Nat.le_of_ble_eq_true rfl) dL_law_4 (fun x H locs hc hP hD hS => ?_)
  obtain ⟨e1, h3, h8, hsg, hpw, hci, hv⟩ := hc
  subst e1
  have hP : va_P D vwCl (List.flatten [(rtB cyC cyI cyO x).flatten]) H := hP
  have hD : va_D (fun q : Nat => s.heap.size ≤ q) (List.flatten [(rtB cyC cyI cyO x).flatten]) := hD
  refine lv_astore_n (lv' := [(1, .ref (x.1 0 0)), (0, .ref b)]) hx hb dL_law_7 rfl hl (by decide) rfl (fun ls hl => ?_)
  refine va_new (ci := 6) (fs := zX7) (C := RX7) (T := TX7) (N := 15) hx hb hts inT_X7 tyX7 tyX7_ok hown (hts _ wcl_RL_10) (hts _ wis_RX7) (hts _ win_RX7) hK.1 hP hD hS hA rfl zX7_ok (Nat.le_of_ble_eq_true rfl) (Nat.le_of_ble_eq_true rfl) dL_law_8 (fun p1 H hP hD hS => ?_)
  rw [flat_snoc] at hP hD
  refine lv_dup hx hb dL_law_11 rfl ?_
  refine mkC (bl := [(rtB cyC cyI cyO x).flatten, [(p1, .inr (6, zX7))]]) (b := [(p1, .inr (6, zX7))]) (b0 := p1) (As := []) (rest := [.ref p1]) hx hb hml hown hts hl.1 (kX7_init l D cyC cyI cyO p1) bI_X7_init (hts _ wml_RL_12) ⟨rfl, rfl⟩ ⟨Nat.le_of_ble_eq_true rfl, Nat.le_of_ble_eq_true rfl, Nat.le_of_ble_eq_true rfl, Nat.le_of_ble_eq_true rfl⟩ 1 rfl hP hD hS hA hK hO rfl rfl (Nat.le_of_ble_eq_true rfl) dL_law_12 (fun y H locs hc hP hD hS => ?_)
  obtain ⟨A, mm, xx⟩ := y
  obtain ⟨e1, e2, e3⟩ := hc
  have e1 : A 0 = p1 := e1
  have e2 : mm = va_up (fun _ _ => 0) 0 (m28 28) := e2
  have e3 : xx = fun _ => 0 := e3
  subst e1
  have hP : va_P D vwCl (List.flatten [(rtB cyC cyI cyO x).flatten, wM cyI A mm xx]) H := hP
  have hD : va_D (fun q : Nat => s.heap.size ≤ q) (List.flatten [(rtB cyC cyI cyO x).flatten, wM cyI A mm xx]) := hD
  rw [flat_two] at hP hD
  refine lv_astore_n (lv' := [(2, .ref (A 0)), (1, .ref (x.1 0 0)), (0, .ref b)]) hx hb dL_law_15 rfl hl (by decide) rfl (fun ls hl => ?_)
  refine lv_iconst (v := 0) hx hb dL_law_16 (by decide) ?_
  refine lv_istore_n (lv' := [(3, .int 0), (2, .ref (A 0)), (1, .ref (x.1 0 0)), (0, .ref b)]) hx hb dL_law_17 rfl hl (by decide) rfl (fun ls hl => ?_)
  have hl : lv_has ls 8 [(0, .ref b), (1, .ref (x.1 0 0)), (2, .ref (A 0)), (3, .int (nI (5 * 0)))] := lv_sub hl [3, 2, 1, 0] rfl
  have hR0 : RA (128 * 0) (x.2.2.1 0) (x.2.2.2.1 0) (x.2.2.1 1) (x.2.2.2.1 1) (x.2.2.1 3) x.2.2.2.2 0 (x.2.2.1 4) (x.2.2.2.1 3) (x.2.2.1 6) mm xx 0 0 := by
    rw [e2, e3]
    exact ra0 hci h3 h8 hsg hpw hv
  refine W.widen (k := 80) (n := 3000) (by decide) (by decide) ?_
  exact law_loop (NC := 80) (NS := 3000) C0 hK (show 80 ≤ 600000 by decide) (show 3000 ≤ 7302250 by decide) hL (L + 1) 0 (by omega) (by omega) (x.2.2.1 0) (x.2.2.2.1 0) (x.2.2.1 1) (x.2.2.1 2) (x.2.2.2.1 1) (x.2.2.1 3) x.2.2.2.2 0 (x.2.2.1 4) (x.2.2.2.1 2) (x.2.2.1 5) (x.2.2.2.1 3) (x.2.2.1 6) (x.2.2.2.1 4) mm xx 0 0 hR0 H _ hP hD hS ls hl
