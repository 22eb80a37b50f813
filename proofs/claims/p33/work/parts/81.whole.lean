set_option maxHeartbeats 4000000 in
set_option maxRecDepth 100000 in
theorem whole_start {p : Program} {e : Env} {s : State} {m : MethodId} {below : List Frame} {meth : Method} {c : Code} (l : Launch) (hflags : l.flags = flags0) {b L : Nat} {xs : Nat → Int32} (hL : L ≤ 260) (C0 : lw_At p s m meth c b L xs) : W p l e room_1 s m #[Value.ref b] below meth c s.heap [] 0 0 (lw_Z below #[Value.ref b] s) (entryFrame m ([Value.ref b] : List Value).toArray 13) := by
  obtain ⟨hx, hb, hr, hml, hown, hts0, hX, hbl, hlocks, hgv⟩ := id C0
  have hts : ∀ w ∈ TB, w.before #[Value.ref b] s = true := fun w h => hts0 w (List.mem_filter.mp h).1
  have hA : ∀ q : Nat, s.heap.size ≤ q → (fun q : Nat => s.heap.size ≤ q) q := fun _ h => h
  obtain ⟨D, cyC, cyI, cyO, hK, hO⟩ := kk0 hts0
  have hown : s.vm.findClass RL = some m.cls := hown
  have hS : va_S (fun q : Nat => s.heap.size ≤ q) s.heap s.heap [] := va_S.rf
  have hP : va_P D vwCl [] s.heap := fun k q h => by simp at h
  have hD : va_D (fun q : Nat => s.heap.size ≤ q) [] := ⟨fun i j p q h => by simp at h, fun k q h => by simp at h⟩
  have hl := lv_entry ([.ref b]) (n := 13) (Nat.le_of_ble_eq_true rfl)
  rw [lg_entry_eq]
  generalize (lg_sl ([.ref b]) ++ List.replicate (13 - (lg_sl ([.ref b])).length) Slot.unset).toArray = ls at hl ⊢
  have hl : lv_has ls 13 [(0, .ref b)] := hl
  refine va_new (ci := 5) (fs := zX6) (C := RX6) (T := TX6) (N := 12) hx hb hts inT_X6 tyX6 tyX6_ok hown (hts _ wcl_RL_14) (hts _ wis_RX6) (hts _ win_RX6) hK.1 hP hD hS hA rfl zX6_ok (Nat.le_of_ble_eq_true rfl) (Nat.le_of_ble_eq_true rfl) dL_law_0 (fun p0 H hP hD hS => ?_)
  have hP : va_P D vwCl (List.flatten [[(p0, .inr (5, zX6))]]) H := hP
  have hD : va_D (fun q : Nat => s.heap.size ≤ q) (List.flatten [[(p0, .inr (5, zX6))]]) := hD
  refine lv_dup hx hb dL_law_3 rfl ?_
  refine mkC (bl := [[(p0, .inr (5, zX6))]]) (b := [(p0, .inr (5, zX6))]) (b0 := p0) (As := []) (rest := [.ref p0]) hx hb hml hown hts hl.1 (kX6_init l D cyC cyI cyO p0) bI_X6_init (hts _ wml_RL_129) ⟨rfl, rfl⟩ ⟨Nat.le_of_ble_eq_true rfl, Nat.le_of_ble_eq_true rfl, Nat.le_of_ble_eq_true rfl, Nat.le_of_ble_eq_true rfl⟩ 0 rfl hP hD hS hA hK hO rfl rfl (Nat.le_of_ble_eq_true rfl) dL_law_4 (fun x H locs hc hP hD hS => ?_)
  obtain ⟨e1, h3, h8, hsg, hpw, hci, hv⟩ := hc
  subst e1
  have hP : va_P D vwCl (List.flatten [(rtB cyC cyI cyO x).flatten]) H := hP
  have hD : va_D (fun q : Nat => s.heap.size ≤ q) (List.flatten [(rtB cyC cyI cyO x).flatten]) := hD
  rw [List.flatten_cons, List.flatten_nil, List.append_nil] at hP hD
  refine lv_astore_n (lv' := [(1, .ref (x.1 0 0)), (0, .ref b)]) hx hb dL_law_7 rfl hl (by decide) rfl (fun ls hl => ?_)
  refine W.widen (k := 80) (n := 3000) (by decide) (by decide) ?_
  obtain ⟨c1, c2⟩ := CI_new hci
  exact lk_first (NC := 80) (NS := 3000) C0 hK (show 80 ≤ 600000 by decide) (show 3000 ≤ 7302250 by decide) hL (x.2.2.1 0) (x.2.2.2.1 0) (x.2.2.1 1) (x.2.2.1 2) (x.2.2.2.1 1) (x.2.2.1 3) x.2.2.2.2 0 (x.2.2.1 4) (x.2.2.2.1 2) (x.2.2.1 5) (x.2.2.2.1 3) (x.2.2.1 6) (x.2.2.2.1 4) c1 c2 hv (by decide) (fun j _ => ⟨0, by decide, hsg j⟩) hpw h3 H _ hP hD hS ls (lv_sub hl [1, 0] rfl)
