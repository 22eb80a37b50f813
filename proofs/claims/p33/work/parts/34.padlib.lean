/-! ===== the pad as a list of signs; append and clear over it ===== -/
def apL (sg : Nat → Nat → Int32) (L : List Int32) : Nat → Nat → Int32 := va_up sg 0 (fun j => if j < L.length then L.getD j 0 else sg 0 j)
def pwL (pw : Nat → Int32) (L : List Int32) : Nat → Int32 := va_up pw 1 (nI L.length)
theorem apL_nil (sg : Nat → Nat → Int32) : apL sg [] = sg := by
  funext k
  unfold apL va_up
  split
  · rename_i e
    subst e
    rfl
  · rfl
theorem ap_nar : ∀ q : Nat, q < 127 → vp_nar .char (((nI q).toUInt32 % 65536).toInt32) = nI q := by decide +kernel
theorem apL_snoc (sg : Nat → Nat → Int32) (L : List Int32) (c : Int32) : va_up (apL sg L) 0 (upd (apL sg L 0) L.length c) = apL sg (L ++ [c]) := by
  funext k
  unfold apL
  by_cases e : k = 0
  · subst e
    funext j
    show upd (fun j => if j < L.length then L.getD j 0 else sg 0 j) L.length c j = if j < (L ++ [c]).length then (L ++ [c]).getD j 0 else sg 0 j
    rw [List.length_append, List.length_singleton]
    by_cases q : j = L.length
    · subst q
      rw [pk_us, if_pos (Nat.lt_succ_self _), List.getD_eq_getElem?_getD, List.getElem?_append_right (Nat.le_refl _), Nat.sub_self]
      rfl
    · rw [pk_un q]
      by_cases q2 : j < L.length
      · rw [if_pos q2, if_pos (by omega), List.getD_eq_getElem?_getD, List.getD_eq_getElem?_getD, List.getElem?_append_left q2]
      · rw [if_neg q2, if_neg (by omega)]
  · rw [va_up_ne _ _ e, va_up_ne _ _ e, va_up_ne _ _ e]
theorem pwL_up (pw : Nat → Int32) (L : List Int32) (c : Int32) : va_up (pwL pw L) 1 (nI (L.length + 1)) = pwL pw (L ++ [c]) := by
  funext k
  unfold pwL va_up
  split
  · rw [List.length_append, List.length_singleton]
  · rfl
theorem wi_cv {c : Int32} (h : ¬ pX6_isWithin c 33 126 = 0) : ∃ q : Nat, q < 127 ∧ c = nI q := by
  unfold pX6_isWithin at h
  split at h
  · exact absurd rfl h
  · split at h
    · exact absurd rfl h
    · rename_i h1 h2
      have a1 := Int32.le_iff_toInt_le.mp (Int32.not_lt.mp h1)
      have a2 := Int32.le_iff_toInt_le.mp (Int32.not_lt.mp h2)
      rw [show (33 : Int32).toInt = 33 from rfl] at a1
      rw [show (126 : Int32).toInt = 126 from rfl] at a2
      obtain ⟨n, hn, rfl⟩ := nI_of (x := c) (fun q => by
        have := Int32.lt_iff_toInt_lt.mp q
        rw [show (0 : Int32).toInt = 0 from rfl] at this
        omega)
      rw [nI_toInt hn] at a2
      exact ⟨n, by omega, rfl⟩
theorem q_Ap (rt : (Nat → Int32)) (sg : (Nat → Nat → Int32)) (pw : (Nat → Int32)) (rd : (Nat → Int32)) (u : (Nat → Nat → Int32)) (w : (Nat → Int32)) (h : (Nat → (Nat → Nat → Int32) × (Nat → Int32))) (r : Nat) (v : (Nat → Int32)) (tu : (Nat → Nat → Int32)) (tw : (Nat → Int32)) (su : (Nat → Nat → Int32)) (sw : (Nat → Int32)) (g : (Nat → Nat → Int32)) (L : List Int32) (c : Int32) (hL : L.length < 60) (hc : ¬ pX6_isWithin c 33 126 = 0) : pX6_append rt (apL sg L) (pwL pw L) rd u w h r v tu tw su sw g c = (nI (L.length + 1), apL sg (L ++ [c]), pwL pw (L ++ [c])) := by
  obtain ⟨q, hq, rfl⟩ := wi_cv hc
  have e1 : pwL pw L 1 = nI L.length := rfl
  have h2 : ¬ pX6_isWithin (nI L.length) 0 59 = 0 := by
    unfold pX6_isWithin
    rw [if_neg (show ¬ nI L.length < 0 from nI_nlt (a := L.length) (b := 0) (by omega) (by omega)), if_neg (show ¬ (59 : Int32) < nI L.length from nI_nlt (a := 59) (by omega) (by omega))]
    decide
  have e3 : pX3_add (apL sg L) (pwL pw L) (((nI q).toUInt32 % 65536).toInt32) = (apL sg (L ++ [nI q]), pwL pw (L ++ [nI q])) := by
    unfold pX3_add
    rw [e1, if_neg h2, nI_clamp (by omega), ap_nar q hq, apL_snoc, nI_1, pwL_up pw L (nI q)]
  unfold pX6_append
  rw [if_neg hc, e1, if_pos (show nI L.length < 60 from nI_lt (b := 60) hL (by decide)), e3]
  show (pwL pw (L ++ [nI q]) 1, _, _) = _
  rw [show pwL pw (L ++ [nI q]) 1 = nI (L ++ [nI q]).length from rfl, List.length_append, List.length_singleton]
theorem k_Ap (l : Launch) (D : va_G) (cyC cyI cyO : ClassId) (Z C TR SN HI Y P R : Nat → Nat) (BB : Nat → Nat → Nat) (rt : (Nat → Int32)) (sg : (Nat → Nat → Int32)) (pw : (Nat → Int32)) (rd : (Nat → Int32)) (u : (Nat → Nat → Int32)) (w : (Nat → Int32)) (h : (Nat → (Nat → Nat → Int32) × (Nat → Int32))) (r : Nat) (v : (Nat → Int32)) (tu : (Nat → Nat → Int32)) (tw : (Nat → Int32)) (su : (Nat → Nat → Int32)) (sw : (Nat → Int32)) (g : (Nat → Nat → Int32)) (L : List Int32) (c : Int32) (hL : L.length < 60) (hc : ¬ pX6_isWithin c 33 126 = 0) : MU l yX6_append (Ty yX6_append cX6_append 2 (some .int)) ({ frames := 2, cells := 0, slots := 0, locals := 43 } : Room) D cyC cyI cyO (List.flatten [wRt Z C TR SN HI Y P R rt, wPd cyC P (apL sg L) (pwL pw L), wRd R P rd, wC cyI C u w, wHM cyI cyO HI BB h r v, wC cyI TR tu tw, wC cyI SN su sw, wWy cyI Y g]) [.ref (Z 0), .int c] (some (.int (nI (L.length + 1)))) (List.flatten [wRt Z C TR SN HI Y P R rt, wPd cyC P (apL sg (L ++ [c])) (pwL pw (L ++ [c])), wRd R P rd, wC cyI C u w, wHM cyI cyO HI BB h r v, wC cyI TR tu tw, wC cyI SN su sw, wWy cyI Y g]) := by
  have k := kX6_append l D cyC cyI cyO Z C TR SN HI Y P R BB rt (apL sg L) (pwL pw L) rd u w h r v tu tw su sw g c
  rw [q_Ap rt sg pw rd u w h r v tu tw su sw g L c hL hc] at k
  exact k
theorem k_Cl (l : Launch) (D : va_G) (cyC cyI cyO : ClassId) (Z C TR SN HI Y P R : Nat → Nat) (BB : Nat → Nat → Nat) (rt : (Nat → Int32)) (sg : (Nat → Nat → Int32)) (pw : (Nat → Int32)) (rd : (Nat → Int32)) (u : (Nat → Nat → Int32)) (w : (Nat → Int32)) (h : (Nat → (Nat → Nat → Int32) × (Nat → Int32))) (r : Nat) (v : (Nat → Int32)) (tu : (Nat → Nat → Int32)) (tw : (Nat → Int32)) (su : (Nat → Nat → Int32)) (sw : (Nat → Int32)) (g : (Nat → Nat → Int32)) : MU l yX6_clear (Ty yX6_clear cX6_clear 2 (some .int)) ({ frames := 0, cells := 0, slots := 0, locals := 0 } : Room) D cyC cyI cyO (List.flatten [wRt Z C TR SN HI Y P R rt, wPd cyC P sg pw, wRd R P rd, wC cyI C u w, wHM cyI cyO HI BB h r v, wC cyI TR tu tw, wC cyI SN su sw, wWy cyI Y g]) [.ref (Z 0)] (some (.int (pw 1))) (List.flatten [wRt Z C TR SN HI Y P R rt, wPd cyC P (apL sg []) (pwL pw []), wRd R P rd, wC cyI C u w, wHM cyI cyO HI BB h r v, wC cyI TR tu tw, wC cyI SN su sw, wWy cyI Y g]) := by
  rw [show apL sg [] = sg from apL_nil sg]
  exact kX6_clear l D cyC cyI cyO Z C TR SN HI Y P R BB rt sg pw rd u w h r v tu tw su sw g
theorem ap_pos {n : Nat} (h : n < 60) : ¬ nI (n + 1) ≤ 0 := nI_nle (by omega) (by omega)
/-- how many orders a text has -/
def dK (a2 : Int32) : Nat := (pL_low a2 10).toNatClampNeg
theorem low_r (a : Int32) {n : Nat} (h0 : 0 < n) (h1 : n < 2147483648) : ∃ k : Nat, k < n ∧ pL_low a (nI n) = nI k := by
  obtain ⟨x, hx, he⟩ : ∃ x : Nat, x < 2147483648 ∧ (a &&& (2147483647 : Int32)) = nI x := by
    have hx : (a &&& (2147483647 : Int32)).toBitVec.toNat < 2147483648 := by
      rw [Int32.toBitVec_and, BitVec.toNat_and]
      exact Nat.lt_of_le_of_lt Nat.and_le_right (by decide)
    refine ⟨(a &&& (2147483647 : Int32)).toBitVec.toNat, hx, ?_⟩
    apply Int32.toBitVec_inj.mp
    apply BitVec.eq_of_toNat_eq
    show _ = (BitVec.ofNat 32 _).toNat
    rw [BitVec.toNat_ofNat, Nat.mod_eq_of_lt (by omega)]
  refine ⟨x % n, Nat.mod_lt _ h0, ?_⟩
  unfold pL_low
  rw [he]
  exact pk_rem hx h0 h1
theorem dK_eq (a2 : Int32) : dK a2 < 10 ∧ pL_low a2 10 = nI (dK a2) := by
  obtain ⟨k, hk, e⟩ := low_r a2 (n := 10) (by decide) (by decide)
  have e : pL_low a2 10 = nI k := e
  unfold dK
  rw [e, nI_clamp (by omega)]
  exact ⟨hk, rfl⟩
theorem ty_x {a2 : Int32} : pL_low a2 10 ≤ nI (dK a2) := by rw [(dK_eq a2).2]; exact Int32.le_refl _
theorem ty_b {a2 : Int32} {i : Nat} (h : i < dK a2) : ¬ pL_low a2 10 ≤ nI i := by
  have k := dK_eq a2
  rw [k.2]
  exact nI_ge h (by omega)
