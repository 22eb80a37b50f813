/-! ===== Int32 by its bits: bt x i ===== -/
def bt (x : Int32) (i : Nat) : Bool := x.toBitVec.getLsbD i
theorem b_ext {x y : Int32} (h : ∀ i, i < 32 → bt x i = bt y i) : x = y := Int32.toBitVec_inj.mp (BitVec.eq_of_getLsbD_eq (fun i hi => h i hi))
theorem b_or (x y : Int32) (i : Nat) : bt (x ||| y) i = (bt x i || bt y i) := by unfold bt; rw [Int32.toBitVec_or, BitVec.getLsbD_or]
theorem b_and (x y : Int32) (i : Nat) : bt (x &&& y) i = (bt x i && bt y i) := by unfold bt; rw [Int32.toBitVec_and, BitVec.getLsbD_and]
theorem b_xor (x y : Int32) (i : Nat) : bt (x ^^^ y) i = (bt x i ^^ bt y i) := by unfold bt; rw [Int32.toBitVec_xor, BitVec.getLsbD_xor]
theorem b_big {x : Int32} {i : Nat} (h : 32 ≤ i) : bt x i = false := BitVec.getLsbD_of_ge _ _ h
theorem b_255 (i : Nat) : bt 255 i = decide (i < 8) := by
  rcases Nat.lt_or_ge i 32 with h | h
  · exact (by decide +kernel : ∀ i, i < 32 → bt 255 i = decide (i < 8)) i h
  · rw [b_big h, decide_eq_false (by omega)]
theorem b_65535 (i : Nat) : bt 65535 i = decide (i < 16) := by
  rcases Nat.lt_or_ge i 32 with h | h
  · exact (by decide +kernel : ∀ i, i < 32 → bt 65535 i = decide (i < 16)) i h
  · rw [b_big h, decide_eq_false (by omega)]
theorem b_m1 : ∀ i, i < 32 → bt (-1) i = true := by decide +kernel
theorem b_0 (i : Nat) : bt 0 i = false := BitVec.getLsbD_zero
theorem s_l : ∀ n, n < 32 → ((nI n &&& 31).toBitVec.smod 32).toNat = n := by decide +kernel
theorem s_u : ∀ n, n < 32 → (((nI n).toUInt32 &&& Int32.toUInt32 31).toBitVec % 32).toNat = n := by decide +kernel
theorem b_shl (n : Nat) (hn : n < 32) (x : Int32) {i : Nat} (hi : i < 32) : bt (x <<< (nI n &&& 31)) i = (decide (n ≤ i) && bt x (i - n)) := by
  unfold bt
  rw [Int32.toBitVec_shiftLeft]
  show (x.toBitVec <<< ((nI n &&& 31).toBitVec.smod 32).toNat).getLsbD i = _
  rw [s_l n hn, BitVec.getLsbD_shiftLeft]
  rcases Nat.lt_or_ge i n with h | h
  · simp [h, Nat.not_le.mpr h]
  · simp [hi, h, Nat.not_lt.mpr h]
theorem b_ushr (n : Nat) (hn : n < 32) (x : Int32) (i : Nat) : bt ((x.toUInt32 >>> ((nI n).toUInt32 &&& Int32.toUInt32 31)).toInt32) i = bt x (n + i) := by
  show (x.toUInt32 >>> ((nI n).toUInt32 &&& Int32.toUInt32 31)).toBitVec.getLsbD i = x.toUInt32.toBitVec.getLsbD (n + i)
  rw [UInt32.toBitVec_shiftRight]
  show (x.toUInt32.toBitVec >>> (((nI n).toUInt32 &&& Int32.toUInt32 31).toBitVec % 32).toNat).getLsbD i = _
  rw [s_u n hn, BitVec.getLsbD_ushiftRight]
theorem b_sshr (n : Nat) (hn : n < 32) (x : Int32) {i : Nat} (hi : i < 32) : bt (x >>> (nI n &&& 31)) i = if n + i < 32 then bt x (n + i) else bt x 31 := by
  unfold bt
  rw [Int32.toBitVec_shiftRight]
  show (x.toBitVec.sshiftRight ((nI n &&& 31).toBitVec.smod 32).toNat).getLsbD i = _
  rw [s_l n hn, BitVec.getLsbD_sshiftRight, BitVec.msb_eq_getLsbD_last]
  simp [hi]
/-! ===== nI under and, xor, >>>, one bit, 65535 ===== -/
theorem nx_and (a b : Nat) : nI a &&& nI b = nI (a &&& b) := by
  apply Int32.toBitVec_inj.1
  show BitVec.ofNat 32 a &&& BitVec.ofNat 32 b = BitVec.ofNat 32 (a &&& b)
  apply BitVec.eq_of_getLsbD_eq
  intro i hi
  simp [hi]
/-! ===== how many places have a property ===== -/
def fb_ct (p : Nat → Bool) : Nat → Nat
  | 0 => 0
  | n + 1 => fb_ct p n + (if p n then 1 else 0)
theorem fb_ct_succ (p : Nat → Bool) (n : Nat) : fb_ct p (n + 1) = fb_ct p n + (if p n then 1 else 0) := rfl
theorem fb_ct_le (p : Nat → Bool) : ∀ n, fb_ct p n ≤ n
  | 0 => Nat.le_refl _
  | n + 1 => by
    have h := fb_ct_le p n
    rw [fb_ct_succ]
    split <;> omega
theorem fb_ct_step (p : Nat → Bool) (m : Nat) : ∀ n, fb_ct p m ≤ fb_ct p (m + n)
  | 0 => Nat.le_refl _
  | n + 1 => by
    have h := fb_ct_step p m n
    show fb_ct p m ≤ fb_ct p (m + n + 1)
    rw [fb_ct_succ]
    omega
theorem fb_ct_mono (p : Nat → Bool) {m n : Nat} (h : m ≤ n) : fb_ct p m ≤ fb_ct p n := by
  have := fb_ct_step p m (n - m)
  rwa [Nat.add_sub_cancel' h] at this
theorem fb_ct_cong {p q : Nat → Bool} : ∀ {n : Nat}, (∀ k, k < n → p k = q k) → fb_ct p n = fb_ct q n
  | 0, _ => rfl
  | n + 1, h => by
    rw [fb_ct_succ, fb_ct_succ, fb_ct_cong (fun k hk => h k (by omega)), h n (by omega)]
/-- one place changed -/
theorem fb_ct_out (p : Nat → Bool) (b : Bool) {i n : Nat} (h : n ≤ i) : fb_ct (fun k => if k = i then b else p k) n = fb_ct p n :=
  fb_ct_cong fun k hk => if_neg (by omega)
theorem fb_ct_upd (p : Nat → Bool) (b : Bool) {i : Nat} : ∀ {n : Nat}, i < n → fb_ct (fun k => if k = i then b else p k) n + (if p i then 1 else 0) = fb_ct p n + (if b then 1 else 0)
  | 0, h => absurd h (Nat.not_lt_zero i)
  | n + 1, h => by
    rw [fb_ct_succ, fb_ct_succ]
    rcases Nat.lt_or_ge i n with q | q
    · have := fb_ct_upd p b q
      have e : (if n = i then b else p n) = p n := if_neg (by omega)
      rw [e]
      omega
    · have e : i = n := by omega
      subst e
      rw [fb_ct_out p b (Nat.le_refl _)]
      simp only [if_true]
      omega
theorem fb_ct_sub {p q : Nat → Bool} : ∀ {n : Nat}, (∀ k, k < n → p k = true → q k = true) → fb_ct p n ≤ fb_ct q n
  | 0, _ => Nat.le_refl _
  | n + 1, h => by
    have h1 := fb_ct_sub (n := n) (p := p) (q := q) (fun k hk => h k (by omega))
    have h2 := h n (by omega)
    rw [fb_ct_succ, fb_ct_succ]
    cases hp : p n <;> cases hq : q n <;> simp_all <;> omega
theorem fb_ct_or {p q : Nat → Bool} : ∀ {n : Nat}, (∀ k, k < n → ¬ (p k = true ∧ q k = true)) → fb_ct (fun k => p k || q k) n = fb_ct p n + fb_ct q n
  | 0, _ => rfl
  | n + 1, h => by
    have h1 := fb_ct_or (n := n) (p := p) (q := q) (fun k hk => h k (by omega))
    have h2 := h n (by omega)
    rw [fb_ct_succ, fb_ct_succ, fb_ct_succ, h1]
    cases hp : p n <;> cases hq : q n <;> simp_all <;> omega
theorem fb_ct_not (p : Nat → Bool) : ∀ n, fb_ct p n + fb_ct (fun k => !p k) n = n
  | 0 => rfl
  | n + 1 => by
    have h := fb_ct_not p n
    rw [fb_ct_succ, fb_ct_succ]
    cases p n <;> simp <;> omega
theorem fb_ct_split (p : Nat → Bool) (m : Nat) : ∀ n, fb_ct p (m + n) = fb_ct p m + fb_ct (fun k => p (m + k)) n
  | 0 => rfl
  | n + 1 => by
    have h := fb_ct_split p m n
    show fb_ct p (m + n + 1) = _
    rw [fb_ct_succ, fb_ct_succ, h, Nat.add_assoc]
theorem fb_ct_zero {p : Nat → Bool} : ∀ {n : Nat}, fb_ct p n = 0 ↔ ∀ k, k < n → p k = false
  | 0 => ⟨fun _ k hk => absurd hk (Nat.not_lt_zero k), fun _ => rfl⟩
  | n + 1 => by
    have h := fb_ct_zero (p := p) (n := n)
    rw [fb_ct_succ]
    constructor
    · intro e k hk
      have e1 : fb_ct p n = 0 := by omega
      rcases Nat.lt_or_ge k n with q | q
      · exact h.mp e1 k q
      · have ek : k = n := by omega
        subst ek
        cases hp : p k
        · rfl
        · simp [hp] at e
    · intro a
      rw [h.mpr (fun k hk => a k (by omega)), a n (by omega)]
      rfl
/-! ===== Integer.bitCount counts the bits ===== -/
theorem pc_and {a b m M : Nat} (ha : a < 256) (hm : m < 256) : (a + 256 * b) &&& (m + 256 * M) = (a &&& m) + 256 * (b &&& M) := by
  have h1 : ((a + 256 * b) &&& (m + 256 * M)) % 2 ^ 8 = a &&& m := by
    rw [Nat.and_mod_two_pow, show (a + 256 * b) % 2 ^ 8 = a by omega, show (m + 256 * M) % 2 ^ 8 = m by omega]
  have h2 : ((a + 256 * b) &&& (m + 256 * M)) / 2 ^ 8 = b &&& M := by
    rw [Nat.and_div_two_pow, show (a + 256 * b) / 2 ^ 8 = b by omega, show (m + 256 * M) / 2 ^ 8 = M by omega]
  omega
def pcM (c : Nat) : Nat → Nat
  | 0 => 0
  | k + 1 => c + 256 * pcM c k
def pS1 (k n : Nat) : Nat := n - (n / 2 &&& pcM 85 k)
def pS2 (k n : Nat) : Nat := (n &&& pcM 51 k) + (n / 4 &&& pcM 51 k)
def pS3 (k n : Nat) : Nat := (n + n / 16) &&& pcM 15 k
def pt1 (a : Nat) : Nat := a - (a / 2 &&& 85)
def pt2 (a : Nat) : Nat := (a &&& 51) + (a / 4 &&& 51)
def pt3 (a : Nat) : Nat := (a + a / 16) &&& 15
def pby (a : Nat) : Nat := fb_ct (fun i => a.testBit i) 8
theorem pd1 : ∀ a, a < 128 → ∀ c, c < 2 → (a + 128 * c) &&& 85 = a &&& 85 := by decide +kernel
theorem pd2 : ∀ a, a < 64 → ∀ c, c < 4 → (a + 64 * c) &&& 51 = a &&& 51 := by decide +kernel
theorem pd3 : ∀ c, c < 69 → ∀ d, d < 5 → (c + c / 16 + 16 * d) &&& 15 = (c + c / 16) &&& 15 := by decide +kernel
theorem pdt : ∀ a, a < 256 → pt1 a < 256 ∧ pt2 (pt1 a) < 69 ∧ pt2 (pt1 a) % 16 ≤ 4 ∧ pt3 (pt2 (pt1 a)) = pby a := by decide +kernel
theorem pS1_s {k a b : Nat} (ha : a < 256) : pS1 (k + 1) (a + 256 * b) = pt1 a + 256 * pS1 k b := by
  have e : (a + 256 * b) / 2 = (a / 2 + 128 * (b % 2)) + 256 * (b / 2) := by omega
  have h1 : a / 2 &&& 85 ≤ a / 2 := Nat.and_le_left
  have h2 : b / 2 &&& pcM 85 k ≤ b / 2 := Nat.and_le_left
  unfold pS1 pt1
  rw [e, show pcM 85 (k + 1) = 85 + 256 * pcM 85 k from rfl, pc_and (by omega) (by decide), pd1 (a / 2) (by omega) (b % 2) (by omega)]
  omega
theorem pS2_s {k a b : Nat} (ha : a < 256) : pS2 (k + 1) (a + 256 * b) = pt2 a + 256 * pS2 k b := by
  have e : (a + 256 * b) / 4 = (a / 4 + 64 * (b % 4)) + 256 * (b / 4) := by omega
  unfold pS2 pt2
  rw [e, show pcM 51 (k + 1) = 51 + 256 * pcM 51 k from rfl, pc_and ha (by decide), pc_and (by omega) (by decide), pd2 (a / 4) (by omega) (b % 4) (by omega)]
  omega
theorem pS3_s {k c e : Nat} (hc : c < 69) (he : e % 16 ≤ 4) : pS3 (k + 1) (c + 256 * e) = pt3 c + 256 * pS3 k e := by
  have h : (c + 256 * e) + (c + 256 * e) / 16 = (c + c / 16 + 16 * (e % 16)) + 256 * (e + e / 16) := by omega
  unfold pS3 pt3
  rw [h, show pcM 15 (k + 1) = 15 + 256 * pcM 15 k from rfl, pc_and (by omega) (by decide), pd3 c hc (e % 16) (by omega)]
theorem pc_low (k b : Nat) : pS2 k (pS1 k b) % 16 ≤ 4 := by
  cases k with
  | zero =>
    unfold pS2
    simp [pcM]
  | succ k =>
    have hb : b = b % 256 + 256 * (b / 256) := by omega
    have ha : b % 256 < 256 := Nat.mod_lt _ (by decide)
    obtain ⟨h1, h2, h3, -⟩ := pdt (b % 256) ha
    rw [hb, pS1_s ha, pS2_s h1]
    generalize pS2 k (pS1 k (b / 256)) = z
    omega
theorem pc_step {k a b : Nat} (ha : a < 256) : pS3 (k + 1) (pS2 (k + 1) (pS1 (k + 1) (a + 256 * b))) = pby a + 256 * pS3 k (pS2 k (pS1 k b)) := by
  obtain ⟨h1, h2, h3, h4⟩ := pdt a ha
  rw [pS1_s ha, pS2_s h1, pS3_s h2 (pc_low k b), h4]
theorem pby_le (a : Nat) : pby a ≤ 8 := fb_ct_le _ 8
theorem pc_four {n : Nat} (hn : n < 4294967296) : pS3 4 (pS2 4 (pS1 4 n)) = pby (n % 256) + 256 * (pby (n / 256 % 256) + 256 * (pby (n / 65536 % 256) + 256 * pby (n / 16777216 % 256))) := by
  have e : n = n % 256 + 256 * (n / 256 % 256 + 256 * (n / 65536 % 256 + 256 * (n / 16777216 % 256 + 256 * 0))) := by omega
  have z : pS3 0 (pS2 0 (pS1 0 0)) = 0 := by decide
  have h : pS3 4 (pS2 4 (pS1 4 (n % 256 + 256 * (n / 256 % 256 + 256 * (n / 65536 % 256 + 256 * (n / 16777216 % 256 + 256 * 0)))))) = _ := pc_step (k := 3) (Nat.mod_lt _ (by decide))
  rw [pc_step (k := 2) (Nat.mod_lt _ (by decide)), pc_step (k := 1) (Nat.mod_lt _ (by decide)), pc_step (k := 0) (Nat.mod_lt _ (by decide)), z] at h
  rw [← e] at h
  rw [h, Nat.mul_zero, Nat.add_zero]
theorem pc_fin {p0 p1 p2 p3 g : Nat} (h0 : p0 ≤ 8) (h1 : p1 ≤ 8) (h2 : p2 ≤ 8) (h3 : p3 ≤ 8) (hg : g = p0 + 256 * (p1 + 256 * (p2 + 256 * p3))) : (g + g / 256 + (g + g / 256) / 65536) % 64 = p0 + p1 + p2 + p3 ∧ g < 4294967296 ∧ g + g / 256 < 4294967296 := by
  have e1 : g / 256 = p1 + 256 * (p2 + 256 * p3) := by omega
  rw [e1]
  have e2 : (g + (p1 + 256 * (p2 + 256 * p3))) / 65536 = (p2 + p1 * 0 + p3) + 256 * p3 := by omega
  rw [e2]
  omega
def qu (x : Int32) (k : Int32) : Int32 := ((x).toUInt32 >>> (k.toUInt32 &&& Int32.toUInt32 31)).toInt32
def qb1 (a : Int32) : Int32 := a - (qu a 1 &&& (1431655765 : Int32))
def qb2 (a : Int32) : Int32 := (a &&& (858993459 : Int32)) + (qu a 2 &&& (858993459 : Int32))
def qb3 (a : Int32) : Int32 := (a + qu a 4) &&& (252645135 : Int32)
def qb4 (a : Int32) : Int32 := a + qu a 8
def qb5 (a : Int32) : Int32 := a + qu a 16
theorem bc_q (a : Int32) : pJ6_bitCount_0f7a4 a = qb5 (qb4 (qb3 (qb2 (qb1 a)))) &&& 63 := rfl
theorem qu_nI {n : Nat} (hn : n < 4294967296) (s : Int32) (k : Nat) (hs : ((s.toUInt32 &&& Int32.toUInt32 31).toBitVec % 32).toNat = k) : qu (nI n) s = nI (n / 2 ^ k) := pk_ushrN hn s k hs
theorem qb1_nI {n : Nat} (hn : n < 4294967296) : qb1 (nI n) = nI (pS1 4 n) := by
  unfold qb1 pS1
  rw [qu_nI hn 1 1 (by decide), show (1431655765 : Int32) = nI (pcM 85 4) by decide, nx_and, pk_sub (Nat.le_trans Nat.and_le_left (Nat.div_le_self _ _))]
theorem qb2_nI {n : Nat} (hn : n < 4294967296) : qb2 (nI n) = nI (pS2 4 n) := by
  unfold qb2 pS2
  rw [qu_nI hn 2 2 (by decide), show (858993459 : Int32) = nI (pcM 51 4) by decide, nx_and, nx_and, nI_add]
theorem qb3_nI {n : Nat} (hn : n < 4294967296) : qb3 (nI n) = nI (pS3 4 n) := by
  unfold qb3 pS3
  rw [qu_nI hn 4 4 (by decide), show (252645135 : Int32) = nI (pcM 15 4) by decide, nI_add, nx_and]
theorem pS1_lt {n : Nat} (hn : n < 4294967296) : pS1 4 n < 4294967296 := Nat.lt_of_le_of_lt (Nat.sub_le _ _) hn
theorem pS2_lt (n : Nat) : pS2 4 n < 4294967296 := by
  have h1 : n &&& pcM 51 4 ≤ pcM 51 4 := Nat.and_le_right
  have h2 : n / 4 &&& pcM 51 4 ≤ pcM 51 4 := Nat.and_le_right
  have h3 : pcM 51 4 = 858993459 := by decide
  unfold pS2
  omega
theorem bt_nI (n i : Nat) : bt (nI n) i = (decide (i < 32) && n.testBit i) := BitVec.getLsbD_ofNat 32 n i
theorem pby_of (n j : Nat) : pby (n / 2 ^ j % 256) = fb_ct (fun i => n.testBit (j + i)) 8 := by
  unfold pby
  refine fb_ct_cong (fun k hk => ?_)
  rw [show (256 : Nat) = 2 ^ 8 from rfl, Nat.testBit_mod_two_pow, decide_eq_true hk, Bool.true_and, Nat.testBit_div_two_pow, Nat.add_comm]
theorem ct_bits (n : Nat) : fb_ct (bt (nI n)) 32 = pby (n % 256) + pby (n / 256 % 256) + pby (n / 65536 % 256) + pby (n / 16777216 % 256) := by
  have e : fb_ct (bt (nI n)) 32 = fb_ct (fun i => n.testBit i) (8 + (8 + (8 + 8))) := fb_ct_cong (fun k hk => by rw [bt_nI, decide_eq_true hk, Bool.true_and])
  rw [e, fb_ct_split, fb_ct_split, fb_ct_split]
  have h0 := pby_of n 0
  have h1 := pby_of n 8
  have h2 := pby_of n 16
  have h3 := pby_of n 24
  rw [Nat.pow_zero, Nat.div_one] at h0
  rw [h0, show n / 256 = n / 2 ^ 8 from rfl, h1, show n / 65536 = n / 2 ^ 16 from rfl, h2, show n / 16777216 = n / 2 ^ 24 from rfl, h3]
  have a0 : fb_ct (fun i => n.testBit (0 + i)) 8 = fb_ct (fun i => n.testBit i) 8 := fb_ct_cong (fun k _ => by rw [Nat.zero_add])
  have a2 : fb_ct (fun k => n.testBit (8 + (8 + k))) 8 = fb_ct (fun i => n.testBit (16 + i)) 8 := fb_ct_cong (fun k _ => by rw [show 8 + (8 + k) = 16 + k by omega])
  have a3 : fb_ct (fun k => n.testBit (8 + (8 + (8 + k)))) 8 = fb_ct (fun i => n.testBit (24 + i)) 8 := fb_ct_cong (fun k _ => by rw [show 8 + (8 + (8 + k)) = 24 + k by omega])
  rw [a0, a2, a3]
  omega
theorem bc_nI {n : Nat} (hn : n < 4294967296) : pJ6_bitCount_0f7a4 (nI n) = nI (fb_ct (bt (nI n)) 32) := by
  have hg := pc_four hn
  obtain ⟨f1, f2, f3⟩ := pc_fin (pby_le _) (pby_le _) (pby_le _) (pby_le _) hg
  rw [bc_q, qb1_nI hn, qb2_nI (pS1_lt hn), qb3_nI (pS2_lt _)]
  unfold qb5 qb4
  rw [qu_nI f2 8 8 (by decide), nI_add, qu_nI f3 16 16 (by decide), nI_add, show (63 : Int32) = nI (2 ^ 6 - 1) from rfl, nx_and, Nat.and_two_pow_sub_one_eq_mod, ct_bits]
  exact congrArg nI f1
theorem bc_eq (x : Int32) : pJ6_bitCount_0f7a4 x = nI (fb_ct (bt x) 32) := by
  have h : x = nI x.toBitVec.toNat := Int32.toBitVec_inj.mp (by show _ = BitVec.ofNat 32 _; simp)
  rw [h]
  exact bc_nI x.toBitVec.isLt
/-! ===== sets as bits ===== -/
theorem bt_shl {k : Nat} (hk : k < 32) (i : Nat) : bt ((1 : Int32) <<< (nI k &&& 31)) i = decide (i = k) := by
  rcases Nat.lt_or_ge i 32 with h | h
  · exact (by decide +kernel : ∀ k, k < 32 → ∀ i, i < 32 → bt ((1 : Int32) <<< (nI k &&& 31)) i = decide (i = k)) k hk i h
  · rw [b_big h, decide_eq_false (by omega)]
theorem sh_bit (x : Int32) {k : Nat} (hk : k < 32) : (x >>> (nI k &&& 31)) &&& (1 : Int32) = if bt x k = true then 1 else 0 := by
  refine b_ext (fun i hi => ?_)
  rw [b_and, b_sshr k hk x hi, show (1 : Int32) = (1 : Int32) <<< (nI 0 &&& 31) by decide, bt_shl (by decide)]
  by_cases h0 : i = 0
  · subst h0
    rw [if_pos (by omega)]
    cases h : bt x (k + 0) <;> rw [Nat.add_zero] at h <;> simp [h, b_0] <;> decide
  · rw [decide_eq_false h0, Bool.and_false]
    split
    · rw [bt_shl (by decide), decide_eq_false h0]
    · rw [b_0]
theorem isIn_bit (x : Int32) {k : Nat} (hk : k < 32) : pX6_isIn x (nI k) = if bt x k = true then 1 else 0 := by
  unfold pX6_isIn
  rw [sh_bit x hk]
  cases bt x k <;> rfl
theorem isIn_0 (x : Int32) {k : Nat} (hk : k < 32) : pX6_isIn x (nI k) = 0 ↔ bt x k = false := by
  rw [isIn_bit x hk]
  cases bt x k <;> decide
theorem bitOf_eq (x : Int32) {k : Nat} (hk : k < 32) : pX6_bitOf x (nI k) = pX6_isIn x (nI k) := by
  rw [isIn_bit x hk]
  exact sh_bit x hk
theorem and_0 (x y : Int32) : x &&& y = 0 ↔ ∀ i, i < 32 → bt x i = true → bt y i = false := by
  constructor
  · intro h i hi h1
    have := b_and x y i
    rw [h, b_0, h1, Bool.true_and] at this
    exact this.symm
  · intro h
    refine b_ext (fun i hi => ?_)
    rw [b_and, b_0]
    cases h1 : bt x i
    · rfl
    · rw [h i hi h1]
      rfl
def M16 (x : Int32) : Prop := ∀ i, 16 ≤ i → bt x i = false
theorem M16_0 : M16 0 := fun i _ => b_0 i
theorem M16_or {x y : Int32} (h : M16 x) (h2 : M16 y) : M16 (x ||| y) := fun i hi => by rw [b_or, h i hi, h2 i hi]; rfl
theorem M16_xor {x y : Int32} (h : M16 x) (h2 : M16 y) : M16 (x ^^^ y) := fun i hi => by rw [b_xor, h i hi, h2 i hi]; rfl
theorem M16_and {x y : Int32} (h : M16 x) : M16 (x &&& y) := fun i hi => by rw [b_and, h i hi]; rfl
theorem M16_and2 {x y : Int32} (h : M16 y) : M16 (x &&& y) := fun i hi => by rw [b_and, h i hi, Bool.and_false]
theorem M16_shl {k : Nat} (hk : k < 16) : M16 ((1 : Int32) <<< (nI k &&& 31)) := fun i hi => by rw [bt_shl (by omega), decide_eq_false (by omega)]
/-- a count made in a loop -/
theorem cnt_loop {f : Nat → Int32} {P : Nat → Bool} {N : Nat} (h0 : f 0 = 0) (hs : ∀ i, i < N → f (i + 1) = if P i = true then f i + 1 else f i) : ∀ n, n ≤ N → f n = nI (fb_ct P n) := by
  intro n
  induction n with
  | zero => intro _; exact h0
  | succ n ih =>
    intro hn
    rw [hs n (by omega), ih (by omega), fb_ct_succ]
    cases P n
    · rfl
    · exact nI_1 _
/-- a set made in a loop -/
theorem set_loop {f : Nat → Int32} {P : Nat → Bool} {N : Nat} (hN : N ≤ 32) (h0 : f 0 = 0) (hs : ∀ i, i < N → f (i + 1) = if P i = true then f i ||| ((1 : Int32) <<< (nI i &&& 31)) else f i) : ∀ n, n ≤ N → ∀ k, bt (f n) k = (decide (k < n) && P k) := by
  intro n
  induction n with
  | zero =>
    intro _ k
    rw [h0, b_0, decide_eq_false (Nat.not_lt_zero k)]
    rfl
  | succ n ih =>
    intro hn k
    rw [hs n (by omega)]
    by_cases hk : k = n
    · subst hk
      rw [decide_eq_true (Nat.lt_succ_self k), Bool.true_and]
      split
      · rename_i hp
        rw [b_or, bt_shl (by omega), decide_eq_true rfl, Bool.or_true, hp]
      · rename_i hp
        rw [ih (by omega) k, decide_eq_false (Nat.lt_irrefl k), Bool.false_and]
        cases h : P k
        · rfl
        · exact absurd h hp
    · have e : decide (k < n + 1) = decide (k < n) := by
        by_cases h : k < n
        · rw [decide_eq_true h, decide_eq_true (by omega)]
        · rw [decide_eq_false h, decide_eq_false (by omega)]
      rw [e]
      split
      · rw [b_or, bt_shl (by omega), decide_eq_false hk, Bool.or_false, ih (by omega) k]
      · exact ih (by omega) k
theorem ct_cut {P : Nat → Bool} {n m : Nat} (h : n ≤ m) : fb_ct (fun k => decide (k < n) && P k) m = fb_ct P n := by
  obtain ⟨d, rfl⟩ : ∃ d, m = n + d := ⟨m - n, by omega⟩
  rw [fb_ct_split]
  have h1 : fb_ct (fun k => decide (n + k < n) && P (n + k)) d = 0 := fb_ct_zero.mpr (fun k _ => by rw [decide_eq_false (by omega)]; rfl)
  rw [h1, Nat.add_zero]
  exact fb_ct_cong (fun k hk => by rw [decide_eq_true hk]; rfl)
theorem bc_set {x : Int32} {P : Nat → Bool} {n : Nat} (hn : n ≤ 32) (h : ∀ k, bt x k = (decide (k < n) && P k)) : pJ6_bitCount_0f7a4 x = nI (fb_ct P n) := by
  rw [bc_eq, show fb_ct (bt x) 32 = fb_ct (fun k => decide (k < n) && P k) 32 from fb_ct_cong (fun k _ => h k), ct_cut hn]
