/-! ===== texts: what the reader reads (a specification: tx, sNum, sPair, sOrd, sTxt) ===== -/
def pS_in (a1 : Int32) (a2 : Int32) (a3 : Int32) : Int32 := (if a1 < a2 then 0 else (if a3 < a1 then 0 else 1))
def pS_isRoof (a1 : Int32) : Int32 := (pS_in a1 0 15)
def pS_isOwner (a1 : Int32) : Int32 := (pS_in a1 0 3)
def pS_isGangway (a1 : Int32) : Int32 := (if (pS_in a1 0 27) = 0 then 0 else (if 16 ≤ a1 then 1 else (if 3 ≤ (a1 - a1 / (4 : Int32) * (4 : Int32)) then 0 else 1)))
def pS_isNumber (a1 : Int32) (a2 : Int32) : Int32 := (if a1 = 0 then (pS_isRoof a2) else (pS_isGangway a2))
theorem N_isG : ∀ i, i < 28 → pX4_isGangway (nI i) = pS_isGangway (nI i) := by decide +kernel
theorem in_eq (a b c : Int32) : pS_in a b c = pX6_isWithin a b c := rfl
theorem isG_eq (x : Int32) : pX4_isGangway x = pS_isGangway x := by
  by_cases h : pX6_isWithin x 0 27 = 0
  · unfold pX4_isGangway pS_isGangway
    rw [in_eq, if_pos h, if_pos h]
  · obtain ⟨j, hj, rfl⟩ := vp_in_of (wi_in (N := 28) rfl (by decide) h) (by decide)
    exact N_isG j hj
theorem num_eq (b x : Int32) : pX2_isAllowed x b = pS_isNumber b x := by
  unfold pX2_isAllowed pS_isNumber
  rw [isG_eq]
  rfl
def tx (f : Nat → Int32) (n : Nat) (e : Int32) (i : Nat) : Int32 := if i < n then f i else e
def sNum (T : Nat → Int32) (b : Int32) (i : Nat) : Bool × Int32 × Nat :=
  if pS_in (T i - (48 : Int32)) 0 9 = 0 ∨ pS_isNumber b (T i - (48 : Int32)) = 0 then (false, 0, i)
  else if T i - (48 : Int32) ≤ 0 ∨ pS_in (T (i + 1)) 48 57 = 0 ∨ pS_isNumber b ((((10 : Int32) * (T i - (48 : Int32))) + T (i + 1)) - (48 : Int32)) = 0 then (true, T i - (48 : Int32), i + 1)
  else (true, (((10 : Int32) * (T i - (48 : Int32))) + T (i + 1)) - (48 : Int32), i + 2)
def sPair (T : Nat → Int32) (i : Nat) : Bool × Nat × Int32 × Int32 :=
  if pS_isOwner (T (i + 1) - (48 : Int32)) = 0 then (false, i + 1, 0, 0)
  else if T (i + 2) = 58 then
    if (sNum T 1 (i + 3)).1 = true then (true, (sNum T 1 (i + 3)).2.2, T (i + 1) - (48 : Int32), (sNum T 1 (i + 3)).2.1) else (false, i + 3, 0, 0)
  else (false, i + 2, 0, 0)
def sOrd (T : Nat → Int32) (i : Nat) : Bool × Nat × Int32 × Int32 :=
  if T i = 104 ∨ T i = 116 ∨ T i = 119 then sPair T i
  else if T i = 99 then
    if (sNum T 0 (i + 1)).1 = true then (true, (sNum T 0 (i + 1)).2.2, (sNum T 0 (i + 1)).2.1, 0) else (false, i + 1, 0, 0)
  else if T i = 100 then (true, i + 1, 0, 0)
  else (false, i, 0, 0)
theorem sNum_pos (T : Nat → Int32) (b : Int32) (i : Nat) : i ≤ (sNum T b i).2.2 ∧ (sNum T b i).2.2 ≤ i + 2 := by
  unfold sNum
  (repeat' split) <;> exact ⟨by simp only; omega, by simp only; omega⟩
theorem tx_in {f : Nat → Int32} {n : Nat} {e : Int32} {i : Nat} (h : i < n) : tx f n e i = f i := if_pos h
theorem tx_out {f : Nat → Int32} {n : Nat} {e : Int32} {i : Nat} (h : ¬ i < n) : tx f n e i = e := if_neg h
theorem sNum_e (f : Nat → Int32) (n : Nat) (b : Int32) (i : Nat) : sNum (tx f n 32) b i = sNum (tx f n 0) b i := by
  unfold sNum
  by_cases h : i < n
  · rw [tx_in (e := 32) h, tx_in (e := 0) h]
    by_cases h1 : i + 1 < n
    · rw [tx_in (e := 32) h1, tx_in (e := 0) h1]
    · rw [tx_out (e := 32) h1, tx_out (e := 0) h1]
      by_cases c : pS_in (f i - (48 : Int32)) 0 9 = 0 ∨ pS_isNumber b (f i - (48 : Int32)) = 0
      · rw [if_pos c, if_pos c]
      · rw [if_neg c, if_neg c, if_pos (Or.inr (Or.inl (show pS_in 32 48 57 = 0 by decide))), if_pos (Or.inr (Or.inl (show pS_in 0 48 57 = 0 by decide)))]
  · rw [tx_out (e := 32) h, tx_out (e := 0) h, if_pos (Or.inl (show pS_in ((32 : Int32) - (48 : Int32)) 0 9 = 0 by decide)), if_pos (Or.inl (show pS_in ((0 : Int32) - (48 : Int32)) 0 9 = 0 by decide))]
theorem sNum_n {f : Nat → Int32} {n : Nat} {b : Int32} {i : Nat} (h : (sNum (tx f n 0) b i).1 = true) : (sNum (tx f n 0) b i).2.2 ≤ n ∧ i + 1 ≤ (sNum (tx f n 0) b i).2.2 := by
  have h1 : i < n := by
    apply Decidable.byContradiction
    intro z
    revert h
    unfold sNum
    rw [tx_out z, if_pos (Or.inl (by decide))]
    exact Bool.false_ne_true
  by_cases h2 : i + 1 < n
  · unfold sNum
    unfold sNum at h
    split
    · rename_i c
      rw [if_pos c] at h
      exact absurd h Bool.false_ne_true
    · split
      · dsimp only
        omega
      · dsimp only
        omega
  · unfold sNum
    unfold sNum at h
    split
    · rename_i c
      rw [if_pos c] at h
      exact absurd h Bool.false_ne_true
    · rw [if_pos (Or.inr (Or.inl (by rw [tx_out h2]; decide)))]
      dsimp only
      omega
theorem sOrd_n {f : Nat → Int32} {n : Nat} {i : Nat} (h : (sOrd (tx f n 0) i).1 = true) : (sOrd (tx f n 0) i).2.1 ≤ n ∧ i + 1 ≤ (sOrd (tx f n 0) i).2.1 := by
  have h1 : i < n := by
    apply Decidable.byContradiction
    intro z
    revert h
    unfold sOrd
    rw [tx_out z, if_neg (by decide), if_neg (by decide), if_neg (by decide)]
    exact Bool.false_ne_true
  revert h
  unfold sOrd sPair
  (repeat' split) <;> intro h <;> first
    | exact absurd h Bool.false_ne_true
    | (have h3 := sNum_n (by assumption); dsimp only at h3 ⊢; omega)
    | (dsimp only; omega)
theorem sOrd_e (f : Nat → Int32) (n : Nat) (i : Nat) : sOrd (tx f n 32) i = sOrd (tx f n 0) i := by
  unfold sOrd sPair
  rw [sNum_e, sNum_e]
  by_cases h : i < n
  · rw [tx_in (e := 32) h, tx_in (e := 0) h]
    by_cases h1 : i + 1 < n
    · rw [tx_in (e := 32) h1, tx_in (e := 0) h1]
      by_cases h2 : i + 2 < n
      · rw [tx_in (e := 32) h2, tx_in (e := 0) h2]
      · rw [tx_out (e := 32) h2, tx_out (e := 0) h2, if_neg (show ¬ (32 : Int32) = 58 by decide), if_neg (show ¬ (0 : Int32) = 58 by decide)]
    · rw [tx_out (e := 32) h1, tx_out (e := 0) h1, if_pos (show pS_isOwner ((32 : Int32) - (48 : Int32)) = 0 by decide), if_pos (show pS_isOwner ((0 : Int32) - (48 : Int32)) = 0 by decide)]
  · rw [tx_out (e := 32) h, tx_out (e := 0) h]
    rw [if_neg (by decide), if_neg (by decide), if_neg (by decide), if_neg (by decide), if_neg (by decide), if_neg (by decide)]
def sTxt (T : Nat → Int32) (n : Nat) : Nat → Nat → Bool × Nat
  | 0, i => (false, i)
  | k + 1, i => if (sOrd T i).1 = true then (if n ≤ (sOrd T i).2.1 then (true, (sOrd T i).2.1) else if T (sOrd T i).2.1 = 44 then sTxt T n k ((sOrd T i).2.1 + 1) else (false, (sOrd T i).2.1)) else (false, (sOrd T i).2.1)
theorem sTxt_s (T : Nat → Int32) (n k i : Nat) : sTxt T n (k + 1) i = if (sOrd T i).1 = true then (if n ≤ (sOrd T i).2.1 then (true, (sOrd T i).2.1) else if T (sOrd T i).2.1 = 44 then sTxt T n k ((sOrd T i).2.1 + 1) else (false, (sOrd T i).2.1)) else (false, (sOrd T i).2.1) := rfl
/-- enough fuel: any more gives the same -/
theorem sTxt_fuel (f : Nat → Int32) (n : Nat) : ∀ k i m : Nat, i ≤ n → n + 1 ≤ i + k → k ≤ m → sTxt (tx f n 0) n m i = sTxt (tx f n 0) n k i := by
  intro k
  induction k with
  | zero => intro i m h1 h2; omega
  | succ k ih =>
    intro i m h1 h2 h3
    obtain ⟨m, rfl⟩ : ∃ q, m = q + 1 := ⟨m - 1, by omega⟩
    rw [sTxt_s, sTxt_s]
    by_cases c1 : (sOrd (tx f n 0) i).1 = true
    · have hb := sOrd_n c1
      rw [if_pos c1, if_pos c1]
      by_cases c2 : n ≤ (sOrd (tx f n 0) i).2.1
      · rw [if_pos c2, if_pos c2]
      · rw [if_neg c2, if_neg c2]
        rw [ih ((sOrd (tx f n 0) i).2.1 + 1) m (by omega) (by omega) (by omega)]
    · rw [if_neg c1, if_neg c1]
def sOK (f : Nat → Int32) (n : Nat) (i : Nat) : Prop := (sTxt (tx f n 0) n 198 i).1 = true
theorem sOK_step {f : Nat → Int32} {n i : Nat} (hi : i ≤ n) (hn : n ≤ 60) (h : sOK f n i) : (sOrd (tx f n 0) i).1 = true ∧ ((sOrd (tx f n 0) i).2.1 < n → tx f n 0 (sOrd (tx f n 0) i).2.1 = 44 ∧ sOK f n ((sOrd (tx f n 0) i).2.1 + 1)) := by
  unfold sOK at h ⊢
  rw [sTxt_s] at h
  by_cases c1 : (sOrd (tx f n 0) i).1 = true
  · have hb := sOrd_n c1
    refine ⟨c1, fun h2 => ?_⟩
    rw [if_pos c1, if_neg (by omega)] at h
    by_cases c3 : tx f n 0 (sOrd (tx f n 0) i).2.1 = 44
    · rw [if_pos c3] at h
      refine ⟨c3, ?_⟩
      rw [sTxt_fuel f n 197 ((sOrd (tx f n 0) i).2.1 + 1) 198 (by omega) (by omega) (by omega)]
      exact h
    · rw [if_neg c3] at h
      exact absurd h Bool.false_ne_true
  · rw [if_neg c1] at h
    exact absurd h Bool.false_ne_true
theorem sNum_g {T : Nat → Int32} {i : Nat} (h : (sNum T 1 i).1 = true) : vp_in (sNum T 1 i).2.1 28 := by
  have e : ∀ x, ¬ pS_isNumber 1 x = 0 → vp_in x 28 := fun x hx => by
    unfold pS_isNumber at hx
    rw [if_neg (by decide), ← isG_eq] at hx
    exact ig_in hx
  unfold sNum
  unfold sNum at h
  split
  · rename_i c
    rw [if_pos c] at h
    exact absurd h Bool.false_ne_true
  · rename_i c
    split
    · exact e _ (fun z => c (Or.inr z))
    · rename_i c2
      exact e _ (fun z => c2 (Or.inr (Or.inr z)))
theorem sPair_ok {T : Nat → Int32} {i : Nat} (h : (sPair T i).1 = true) : vp_in (sPair T i).2.2.1 4 ∧ vp_in (sPair T i).2.2.2 28 := by
  unfold sPair
  unfold sPair at h
  split
  · rename_i c
    rw [if_pos c] at h
    exact absurd h Bool.false_ne_true
  · rename_i c
    rw [if_neg c] at h
    split
    · rename_i c2
      rw [if_pos c2] at h
      split
      · rename_i c3
        exact ⟨io_in c, sNum_g c3⟩
      · rename_i c3
        rw [if_neg c3] at h
        exact absurd h Bool.false_ne_true
    · rename_i c2
      rw [if_neg c2] at h
      exact absurd h Bool.false_ne_true
/-- what the loop of run keeps of the text: isForm stands, and behind the spot the text is whole -/
theorem within_nI {i a b : Nat} (hi : i < 1000000) (ha : a < 1000000) (hb : b < 1000000) : pX6_isWithin (nI i) (nI a) (nI b) = if a ≤ i ∧ i ≤ b then 1 else 0 := by
  unfold pX6_isWithin
  by_cases h1 : i < a
  · rw [if_pos (nI_lt h1 (by omega)), if_neg (by omega)]
  · rw [if_neg (nI_nlt (by omega) (by omega))]
    by_cases h2 : b < i
    · rw [if_pos (nI_lt h2 (by omega)), if_neg (by omega)]
    · rw [if_neg (nI_nlt (by omega) (by omega)), if_pos (by omega)]
section RD
variable {rd : Nat → Int32} {sg : Nat → Nat → Int32} {pw : Nat → Int32} {n i : Nat}
theorem sg_at (hp : pw 1 = nI n) (hn : n ≤ 60) (hi : i < 2000) : pX3_signAt sg pw (nI i) = tx (sg 0) n 32 i := by
  unfold pX3_signAt tx
  rw [hp, show pX6_isWithin (nI i) 0 59 = pX6_isWithin (nI i) (nI 0) (nI 59) from rfl, within_nI (by omega) (by omega) (by omega)]
  by_cases h : 0 ≤ i ∧ i ≤ 59
  · rw [if_pos h, if_neg (by decide)]
    by_cases h2 : i < n
    · rw [if_pos h2, if_neg (nI_ge h2 (by omega)), nI_clamp (by omega)]
    · rw [if_neg h2, if_pos (nI_le (by omega) (by omega))]
  · rw [if_neg h, if_pos rfl, if_neg (by omega)]
theorem sg_q (hch : CH sg) (hn : n ≤ 60) (i : Nat) : ∃ q, q < 65536 ∧ tx (sg 0) n 32 i = nI q := by
  unfold tx
  by_cases h : i < n
  · rw [if_pos h]
    exact hch i (by omega)
  · rw [if_neg h]
    exact ⟨32, by decide, rfl⟩
def dgv (q : Nat) : Int32 := if 48 ≤ q ∧ q ≤ 57 then nI (q - 48) else -1
theorem dg_at {q : Nat} {x : Int32} (hT : pX3_signAt sg pw x = nI q) (hq : q < 65536) : pX2_digitAt rd sg pw x = dgv q := by
  unfold pX2_digitAt dgv
  rw [hT]
  by_cases h1 : q < 48
  · rw [if_pos (show nI q < (48 : Int32) from nI_lt (b := 48) h1 (by decide)), if_neg (show ¬ (48 ≤ q ∧ q ≤ 57) by omega)]
  · rw [if_neg (show ¬ nI q < (48 : Int32) from nI_nlt (b := 48) (by omega) (by omega))]
    by_cases h2 : 57 < q
    · rw [if_pos (show (57 : Int32) < nI q from nI_lt (a := 57) h2 (by omega)), if_neg (show ¬ (48 ≤ q ∧ q ≤ 57) by omega)]
    · rw [if_neg (show ¬ (57 : Int32) < nI q from nI_nlt (a := 57) (by omega) (by decide)), if_pos (show 48 ≤ q ∧ q ≤ 57 by omega)]
      exact pk_sub (b := 48) (by omega)
theorem in7_nI {i a b : Nat} (hi : i < 1000000) (ha : a < 1000000) (hb : b < 1000000) : pS_in (nI i) (nI a) (nI b) = if a ≤ i ∧ i ≤ b then 1 else 0 := within_nI hi ha hb
theorem in_dg {q : Nat} (hq : q < 65536) : pS_in (nI q - (48 : Int32)) 0 9 = 0 ↔ ¬ (48 ≤ q ∧ q ≤ 57) := by
  by_cases h1 : q < 48
  · have : nI q - (48 : Int32) < 0 := pk_sneg (b := 48) (by decide) h1
    unfold pS_in
    rw [if_pos this]
    exact ⟨fun _ => by omega, fun _ => rfl⟩
  · rw [show nI q - (48 : Int32) = nI (q - 48) from pk_sub (b := 48) (by omega), show pS_in (nI (q - 48)) 0 9 = pS_in (nI (q - 48)) (nI 0) (nI 9) from rfl, in7_nI (by omega) (by omega) (by omega), if_10]
    omega
theorem in_ch {q : Nat} (hq : q < 65536) : pS_in (nI q) 48 57 = 0 ↔ ¬ (48 ≤ q ∧ q ≤ 57) := by
  rw [show pS_in (nI q) 48 57 = pS_in (nI q) (nI 48) (nI 57) from rfl, in7_nI (by omega) (by omega) (by omega), if_10]
theorem al_m1 (b : Int32) : pS_isNumber b (-1) = 0 := by
  unfold pS_isNumber
  split <;> decide
theorem own_dg {q : Nat} (hq : q < 65536) : pX6_isOwner (dgv q) = 0 ↔ pS_isOwner (nI q - (48 : Int32)) = 0 := by
  unfold dgv
  by_cases h : 48 ≤ q ∧ q ≤ 57
  · rw [if_pos h, show nI q - (48 : Int32) = nI (q - 48) from pk_sub (b := 48) (by omega)]
    exact Iff.rfl
  · rw [if_neg h]
    refine ⟨fun _ => ?_, fun _ => by decide⟩
    unfold pS_isOwner
    by_cases h1 : q < 48
    · unfold pS_in
      rw [if_pos (show nI q - (48 : Int32) < 0 from pk_sneg (b := 48) (by decide) h1)]
    · rw [show nI q - (48 : Int32) = nI (q - 48) from pk_sub (b := 48) (by omega), show pS_in (nI (q - 48)) 0 3 = pS_in (nI (q - 48)) (nI 0) (nI 3) from rfl, in7_nI (by omega) (by omega) (by omega), if_neg (by omega)]
theorem rd_num (b : Int32) (h1 : rd 1 = nI i) (hp : pw 1 = nI n) (hn : n ≤ 60) (hch : CH sg) (hi : i < 1000) : pX2_readNumber rd sg pw b = if (sNum (tx (sg 0) n 32) b i).1 = true then (1, va_up (va_up rd 1 (nI (sNum (tx (sg 0) n 32) b i).2.2)) 5 (sNum (tx (sg 0) n 32) b i).2.1) else (0, rd) := by
  have t1 := sg_at (sg := sg) hp hn (show i < 2000 by omega)
  have t2 := sg_at (sg := sg) hp hn (show i + 1 < 2000 by omega)
  obtain ⟨q, hq, e1⟩ := sg_q hch hn i
  obtain ⟨q2, hq2, e2⟩ := sg_q hch hn (i + 1)
  rw [e1] at t1
  rw [e2] at t2
  unfold pX2_readNumber
  rw [h1, nI_1, nI_1]
  simp only [dg_at t1 hq, dg_at t2 hq2, num_eq]
  by_cases c1 : 48 ≤ q ∧ q ≤ 57
  · have es : nI q - (48 : Int32) = nI (q - 48) := pk_sub (b := 48) (by omega)
    have n1 : ¬ pS_in (nI q - (48 : Int32)) 0 9 = 0 := fun z => (in_dg hq).mp z c1
    rw [show dgv q = nI (q - 48) from if_pos c1]
    by_cases c2 : pS_isNumber b (nI (q - 48)) = 0
    · have eS : sNum (tx (sg 0) n 32) b i = (false, 0, i) := by
        unfold sNum
        rw [e1]
        exact if_pos (Or.inr (by rw [es]; exact c2))
      rw [if_pos c2, eS]
      exact (if_neg Bool.false_ne_true).symm
    · have hc : ¬ (pS_in (nI q - (48 : Int32)) 0 9 = 0 ∨ pS_isNumber b (nI q - (48 : Int32)) = 0) := fun z => z.elim n1 (fun z => c2 (by rw [← es]; exact z))
      rw [if_neg c2]
      by_cases c3 : q = 48
      · have eS : sNum (tx (sg 0) n 32) b i = (true, nI (q - 48), i + 1) := by
          unfold sNum
          rw [e1, if_neg hc, es]
          exact if_pos (Or.inl (by rw [c3]; decide))
        rw [eS, if_pos (show nI (q - 48) = 0 by rw [c3]; rfl)]
        exact (if_pos rfl).symm
      · rw [if_neg (show ¬ nI (q - 48) = 0 from nI_ne0 (by omega) (by omega))]
        have n3 : ¬ nI (q - 48) ≤ 0 := nI_nle (by omega) (by omega)
        by_cases c4 : 48 ≤ q2 ∧ q2 ≤ 57
        · have n4 : ¬ pS_in (nI q2) 48 57 = 0 := fun z => (in_ch hq2).mp z c4
          have ev : (10 : Int32) * nI (q - 48) + nI (q2 - 48) = nI (10 * (q - 48) + (q2 - 48)) := by
            rw [show (10 : Int32) = nI 10 from rfl, pk_mul, nI_add]
          have ew : (10 : Int32) * nI (q - 48) + nI q2 - (48 : Int32) = nI (10 * (q - 48) + (q2 - 48)) := by
            rw [show (10 : Int32) = nI 10 from rfl, pk_mul, nI_add, show (48 : Int32) = nI 48 from rfl, pk_sub (by omega)]
            congr 1
            omega
          rw [show dgv q2 = nI (q2 - 48) from if_pos c4, if_neg (nI_m1 (by omega)), ev]
          by_cases c5 : pS_isNumber b (nI (10 * (q - 48) + (q2 - 48))) = 0
          · have eS : sNum (tx (sg 0) n 32) b i = (true, nI (q - 48), i + 1) := by
              unfold sNum
              rw [e1, if_neg hc, es, e2, ew]
              exact if_pos (Or.inr (Or.inr c5))
            rw [eS, if_pos c5]
            exact (if_pos rfl).symm
          · have eS : sNum (tx (sg 0) n 32) b i = (true, nI (10 * (q - 48) + (q2 - 48)), i + 2) := by
              unfold sNum
              rw [e1, if_neg hc, es, e2, ew]
              exact if_neg (fun z => z.elim n3 (fun z => z.elim n4 c5))
            rw [eS, if_neg c5]
            exact (if_pos rfl).symm
        · have eS : sNum (tx (sg 0) n 32) b i = (true, nI (q - 48), i + 1) := by
            unfold sNum
            rw [e1, if_neg hc, es, e2]
            exact if_pos (Or.inr (Or.inl ((in_ch hq2).mpr c4)))
          rw [eS, show dgv q2 = -1 from if_neg c4, if_pos rfl]
          exact (if_pos rfl).symm
  · have eS : sNum (tx (sg 0) n 32) b i = (false, 0, i) := by
      unfold sNum
      rw [e1]
      exact if_pos (Or.inl ((in_dg hq).mpr c1))
    rw [show dgv q = -1 from if_neg c1, if_pos (al_m1 b), eS]
    exact (if_neg Bool.false_ne_true).symm
def RO_ (T : Nat → Int32) (i : Nat) (x : Bool × Nat × Int32 × Int32) (z : Int32 × (Nat → Int32)) : Prop := z.1 = (if x.1 = true then 1 else 0) ∧ z.2 1 = nI x.2.1 ∧ z.2 2 = nI i ∧ z.2 3 = T i ∧ (x.1 = true → ((T i = 104 ∨ T i = 116 ∨ T i = 119) → z.2 4 = x.2.2.1 ∧ z.2 5 = x.2.2.2) ∧ (T i = 99 → z.2 5 = x.2.2.1))
theorem rd_pair {rp : Nat → Int32} (h1 : rp 1 = nI (i + 1)) (h2 : rp 2 = nI i) (h3 : rp 3 = tx (sg 0) n 32 i) (hp : pw 1 = nI n) (hn : n ≤ 60) (hch : CH sg) (hi : i < 900) (hc : tx (sg 0) n 32 i = 104 ∨ tx (sg 0) n 32 i = 116 ∨ tx (sg 0) n 32 i = 119) : RO_ (tx (sg 0) n 32) i (sPair (tx (sg 0) n 32) i) (if (pX2_readOwner rp sg pw).1 = 0 then (0, (pX2_readOwner rp sg pw).2) else (if (pX2_readSign (pX2_readOwner rp sg pw).2 sg pw 58).1 = 0 then (0, (pX2_readSign (pX2_readOwner rp sg pw).2 sg pw 58).2) else (if (pX2_readNumber (pX2_readSign (pX2_readOwner rp sg pw).2 sg pw 58).2 sg pw 1).1 = 0 then (0, (pX2_readNumber (pX2_readSign (pX2_readOwner rp sg pw).2 sg pw 58).2 sg pw 1).2) else (1, (pX2_readNumber (pX2_readSign (pX2_readOwner rp sg pw).2 sg pw 58).2 sg pw 1).2)))) := by
  have t1 := sg_at (sg := sg) hp hn (show i + 1 < 2000 by omega)
  have t2 := sg_at (sg := sg) hp hn (show i + 2 < 2000 by omega)
  obtain ⟨q, hq, e1⟩ := sg_q hch hn (i + 1)
  rw [e1] at t1
  have n99 : ¬ tx (sg 0) n 32 i = 99 := by rcases hc with z | z | z <;> rw [z] <;> decide
  have eo : pX2_readOwner rp sg pw = if pS_isOwner (nI q - (48 : Int32)) = 0 then (0, va_up rp 4 (dgv q)) else (1, va_up (va_up rp 4 (dgv q)) 1 (nI (i + 2))) := by
    unfold pX2_readOwner
    rw [h1, dg_at t1 hq, nI_1]
    by_cases c : pS_isOwner (nI q - (48 : Int32)) = 0
    · rw [if_pos c, if_pos ((own_dg hq).mpr c)]
    · rw [if_neg c, if_neg (fun z => c ((own_dg hq).mp z))]
  by_cases c1 : pS_isOwner (nI q - (48 : Int32)) = 0
  · have eS : sPair (tx (sg 0) n 32) i = (false, i + 1, 0, 0) := by
      unfold sPair
      rw [e1]
      exact if_pos c1
    rw [eS, eo, if_pos c1]
    dsimp only
    rw [if_pos rfl]
    exact ⟨rfl, h1, h2, h3, fun z => absurd z Bool.false_ne_true⟩
  · have ed : dgv q = nI q - (48 : Int32) := by
      unfold dgv
      by_cases c : 48 ≤ q ∧ q ≤ 57
      · rw [if_pos c]
        exact (pk_sub (b := 48) (by omega)).symm
      · exfalso
        refine c1 ((own_dg hq).mp ?_)
        unfold dgv
        rw [if_neg c]
        decide
    rw [eo, if_neg c1]
    dsimp only
    rw [if_neg (show ¬ (1 : Int32) = 0 by decide)]
    have hw1 : va_up (va_up rp 4 (dgv q)) 1 (nI (i + 2)) 1 = nI (i + 2) := rfl
    have hw2 : va_up (va_up rp 4 (dgv q)) 1 (nI (i + 2)) 2 = nI i := h2
    have hw3 : va_up (va_up rp 4 (dgv q)) 1 (nI (i + 2)) 3 = tx (sg 0) n 32 i := h3
    have hw4 : va_up (va_up rp 4 (dgv q)) 1 (nI (i + 2)) 4 = dgv q := rfl
    generalize va_up (va_up rp 4 (dgv q)) 1 (nI (i + 2)) = w1 at hw1 hw2 hw3 hw4 ⊢
    have es : pX2_readSign w1 sg pw 58 = if tx (sg 0) n 32 (i + 2) = 58 then (1, va_up w1 1 (nI (i + 3))) else (0, w1) := by
      unfold pX2_readSign
      rw [hw1, t2, nI_1]
    rw [es]
    by_cases c2 : tx (sg 0) n 32 (i + 2) = 58
    · rw [if_pos c2]
      dsimp only
      rw [if_neg (show ¬ (1 : Int32) = 0 by decide), rd_num (n := n) (i := i + 3) 1 rfl hp hn hch (by omega)]
      by_cases c3 : (sNum (tx (sg 0) n 32) 1 (i + 3)).1 = true
      · have eS : sPair (tx (sg 0) n 32) i = (true, (sNum (tx (sg 0) n 32) 1 (i + 3)).2.2, nI q - (48 : Int32), (sNum (tx (sg 0) n 32) 1 (i + 3)).2.1) := by
          unfold sPair
          rw [e1, if_neg c1, if_pos c2, if_pos c3]
        rw [eS, if_pos c3]
        dsimp only
        rw [if_neg (show ¬ (1 : Int32) = 0 by decide)]
        exact ⟨rfl, rfl, hw2, hw3, fun _ => ⟨fun _ => ⟨hw4.trans ed, rfl⟩, fun z => absurd z n99⟩⟩
      · have eS : sPair (tx (sg 0) n 32) i = (false, i + 3, 0, 0) := by
          unfold sPair
          rw [e1, if_neg c1, if_pos c2, if_neg c3]
        rw [eS, if_neg c3]
        dsimp only
        rw [if_pos rfl]
        exact ⟨rfl, rfl, hw2, hw3, fun z => absurd z Bool.false_ne_true⟩
    · have eS : sPair (tx (sg 0) n 32) i = (false, i + 2, 0, 0) := by
        unfold sPair
        rw [e1, if_neg c1, if_neg c2]
      rw [eS, if_neg c2]
      dsimp only
      rw [if_pos rfl]
      exact ⟨rfl, hw1, hw2, hw3, fun z => absurd z Bool.false_ne_true⟩
theorem rd_order (h1 : rd 1 = nI i) (hp : pw 1 = nI n) (hn : n ≤ 60) (hch : CH sg) (hi : i < 800) : RO_ (tx (sg 0) n 32) i (sOrd (tx (sg 0) n 32) i) (pX2_readOrder rd sg pw) := by
  have t0 := sg_at (sg := sg) hp hn (show i < 2000 by omega)
  unfold pX2_readOrder
  rw [h1, t0, nI_1]
  have hr1 : va_up (va_up (va_up rd 2 (nI i)) 3 (tx (sg 0) n 32 i)) 1 (nI (i + 1)) 1 = nI (i + 1) := rfl
  have hr2 : va_up (va_up (va_up rd 2 (nI i)) 3 (tx (sg 0) n 32 i)) 1 (nI (i + 1)) 2 = nI i := rfl
  have hr3 : va_up (va_up (va_up rd 2 (nI i)) 3 (tx (sg 0) n 32 i)) 1 (nI (i + 1)) 3 = tx (sg 0) n 32 i := rfl
  have hs1 : va_up (va_up rd 2 (nI i)) 3 (tx (sg 0) n 32 i) 1 = nI i := h1
  have hs2 : va_up (va_up rd 2 (nI i)) 3 (tx (sg 0) n 32 i) 2 = nI i := rfl
  have hs3 : va_up (va_up rd 2 (nI i)) 3 (tx (sg 0) n 32 i) 3 = tx (sg 0) n 32 i := rfl
  generalize va_up (va_up (va_up rd 2 (nI i)) 3 (tx (sg 0) n 32 i)) 1 (nI (i + 1)) = rp at hr1 hr2 hr3 ⊢
  generalize va_up (va_up rd 2 (nI i)) 3 (tx (sg 0) n 32 i) = rq at hs1 hs2 hs3 ⊢
  by_cases c : tx (sg 0) n 32 i = 104 ∨ tx (sg 0) n 32 i = 116 ∨ tx (sg 0) n 32 i = 119
  · have n1 : ¬ tx (sg 0) n 32 i = 99 := by rcases c with z | z | z <;> rw [z] <;> decide
    have n2 : ¬ tx (sg 0) n 32 i = 100 := by rcases c with z | z | z <;> rw [z] <;> decide
    have k := rd_pair (i := i) (n := n) (sg := sg) (pw := pw) (rp := rp) hr1 hr2 hr3 hp hn hch (by omega) c
    have eS : sOrd (tx (sg 0) n 32) i = sPair (tx (sg 0) n 32) i := if_pos c
    rw [eS, if_neg n1, if_neg n2]
    by_cases c1 : tx (sg 0) n 32 i = 104
    · rw [if_pos c1]
      exact k
    · rw [if_neg c1]
      by_cases c2 : tx (sg 0) n 32 i = 116
      · rw [if_pos c2]
        exact k
      · rw [if_neg c2, if_pos (c.resolve_left c1 |>.resolve_left c2)]
        exact k
  · by_cases c1 : tx (sg 0) n 32 i = 99
    · rw [if_pos c1, rd_num (n := n) (i := i + 1) 0 hr1 hp hn hch (by omega)]
      by_cases c3 : (sNum (tx (sg 0) n 32) 0 (i + 1)).1 = true
      · have eS : sOrd (tx (sg 0) n 32) i = (true, (sNum (tx (sg 0) n 32) 0 (i + 1)).2.2, (sNum (tx (sg 0) n 32) 0 (i + 1)).2.1, 0) := by
          unfold sOrd
          rw [if_neg c, if_pos c1, if_pos c3]
        rw [eS, if_pos c3]
        exact ⟨rfl, rfl, hr2, hr3, fun _ => ⟨fun z => absurd z c, fun _ => rfl⟩⟩
      · have eS : sOrd (tx (sg 0) n 32) i = (false, i + 1, 0, 0) := by
          unfold sOrd
          rw [if_neg c, if_pos c1, if_neg c3]
        rw [eS, if_neg c3]
        exact ⟨rfl, hr1, hr2, hr3, fun z => absurd z Bool.false_ne_true⟩
    · rw [if_neg c1]
      by_cases c2 : tx (sg 0) n 32 i = 100
      · have eS : sOrd (tx (sg 0) n 32) i = (true, i + 1, 0, 0) := by
          unfold sOrd
          rw [if_neg c, if_neg c1, if_pos c2]
        rw [eS, if_pos c2]
        exact ⟨rfl, hr1, hr2, hr3, fun _ => ⟨fun z => absurd z c, fun z => absurd z c1⟩⟩
      · have eS : sOrd (tx (sg 0) n 32) i = (false, i, 0, 0) := by
          unfold sOrd
          rw [if_neg c, if_neg c1, if_neg c2]
        rw [eS, if_neg c2, if_neg (fun z => c (Or.inl z)), if_neg (fun z => c (Or.inr (Or.inl z))), if_neg (fun z => c (Or.inr (Or.inr z)))]
        exact ⟨rfl, hs1, hs2, hs3, fun z => absurd z Bool.false_ne_true⟩
theorem rd_sign (h1 : rd 1 = nI i) (hp : pw 1 = nI n) (hn : n ≤ 60) (hi : i < 1000) (x : Int32) : pX2_readSign rd sg pw x = if tx (sg 0) n 32 i = x then (1, va_up rd 1 (nI (i + 1))) else (0, rd) := by
  unfold pX2_readSign
  rw [h1, sg_at hp hn (by omega), nI_1]
theorem tx_44 {f : Nat → Int32} {j : Nat} (h : j < n) : tx f n 32 j = tx f n 0 j := by rw [tx_in h, tx_in h]
theorem rd_faultL {rd0 : Nat → Int32} (hp : pw 1 = nI n) (hn : n ≤ 60) (hch : CH sg) : ∀ (k i j : Nat) (rd : Nat → Int32), rd 1 = nI i → i ≤ n → n + 1 ≤ i + k → (pX2_firstFault_L6 rd0 sg pw k j rd).1 = if (sTxt (tx (sg 0) n 0) n k i).1 = true then -4 else nI (sTxt (tx (sg 0) n 0) n k i).2 := by
  intro k
  induction k with
  | zero => intro i j rd _ h1 h2; omega
  | succ k ih =>
    intro i j rd h1 hi hk
    obtain ⟨a1, a2, a3, a4, a5⟩ := rd_order h1 hp hn hch (show i < 800 by omega)
    rw [pX2_firstFault_L6_s, sTxt_s]
    generalize pX2_readOrder rd sg pw = z at a1 a2 a3 a4 a5 ⊢
    rw [sOrd_e] at a1 a2
    rw [a1]
    by_cases c1 : (sOrd (tx (sg 0) n 0) i).1 = true
    · have hb := sOrd_n c1
      rw [if_pos c1, if_neg (by decide), if_pos c1, a2, hp]
      by_cases c2 : n ≤ (sOrd (tx (sg 0) n 0) i).2.1
      · rw [if_pos c2, if_pos (by rw [show (sOrd (tx (sg 0) n 0) i).2.1 = n by omega])]
        rfl
      · rw [if_neg c2, if_neg (fun z => c2 (by have := (nI_eq (by omega) (by omega)).mp z; omega)), rd_sign a2 hp hn (by omega), tx_44 (by omega)]
        by_cases c3 : tx (sg 0) n 0 (sOrd (tx (sg 0) n 0) i).2.1 = 44
        · rw [if_pos c3, if_pos c3]
          dsimp only
          rw [if_neg (show ¬ (1 : Int32) = 0 by decide)]
          exact ih _ _ _ rfl (by omega) (by omega)
        · rw [if_neg c3, if_neg c3, if_pos rfl]
          exact a2
    · rw [if_neg c1, if_pos rfl, if_neg c1]
      exact a2
theorem rd_fault (hp : pw 1 = nI n) (hn : n ≤ 60) (hch : CH sg) : (pX2_firstFault rd sg pw).1 = if (sTxt (tx (sg 0) n 0) n 198 0).1 = true then -4 else nI (sTxt (tx (sg 0) n 0) n 198 0).2 := by
  have h := rd_faultL (rd0 := rd) hp hn hch 61 0 0 (pX2_rewind rd sg pw) rfl (by omega) (by omega)
  rw [sTxt_fuel (sg 0) n 61 0 198 (by omega) (by omega) (by omega)]
  exact h
end RD
theorem sTxt_cg {f g : Nat → Int32} {n : Nat} (h : ∀ j, j < n → f j = g j) : tx f n 0 = tx g n 0 := by
  funext j
  unfold tx
  split
  · rename_i q
    exact h j q
  · rfl
theorem wi_gang {a : Int32} (c : ¬ pX4_isGangway a = 0) : ∃ k, k < 28 ∧ a = nI k := vp_in_of (ig_in c) (by decide)
theorem wi_own {a : Int32} (c : ¬ pX6_isOwner a = 0) : ∃ k, k < 4 ∧ a = nI k := vp_in_of (io_in c) (by decide)
theorem wi_roof {a : Int32} (c : ¬ pX6_isRoof a = 0) : ∃ k, k < 16 ∧ a = nI k := vp_in_of (ir_in c) (by decide)
theorem sNum_G {T : Nat → Int32} {i : Nat} (h : (sNum T 1 i).1 = true) : ¬ pS_isGangway (sNum T 1 i).2.1 = 0 := by
  have e : ∀ z, ¬ pS_isNumber 1 z = 0 → ¬ pS_isGangway z = 0 := fun z hz => by
    unfold pS_isNumber at hz
    rw [if_neg (by decide)] at hz
    exact hz
  unfold sNum
  unfold sNum at h
  split
  · rename_i c
    rw [if_pos c] at h
    exact absurd h Bool.false_ne_true
  · rename_i c
    split
    · exact e _ (fun z => c (Or.inr z))
    · rename_i c2
      exact e _ (fun z => c2 (Or.inr (Or.inr z)))
theorem sNum_R {T : Nat → Int32} {i : Nat} (h : (sNum T 0 i).1 = true) : ¬ pX6_isRoof (sNum T 0 i).2.1 = 0 := by
  have e : ∀ z, ¬ pS_isNumber 0 z = 0 → ¬ pX6_isRoof z = 0 := fun z hz => by
    unfold pS_isNumber at hz
    rw [if_pos rfl] at hz
    exact hz
  unfold sNum
  unfold sNum at h
  split
  · rename_i c
    rw [if_pos c] at h
    exact absurd h Bool.false_ne_true
  · rename_i c
    split
    · exact e _ (fun z => c (Or.inr z))
    · rename_i c2
      exact e _ (fun z => c2 (Or.inr (Or.inr z)))
/-- what a whole order tells -/
def OT (T : Nat → Int32) (i : Nat) : Prop := ((T i = 104 ∨ T i = 116 ∨ T i = 119) ∧ (∃ o k, o < 4 ∧ k < 28 ∧ ¬ pS_isGangway (nI k) = 0 ∧ (sOrd T i).2.2.1 = nI o ∧ (sOrd T i).2.2.2 = nI k)) ∨ (T i = 99 ∧ ∃ k, k < 16 ∧ (sOrd T i).2.2.1 = nI k) ∨ T i = 100
theorem sOrd_OT {T : Nat → Int32} {i : Nat} (h : (sOrd T i).1 = true) : OT T i := by
  by_cases c : T i = 104 ∨ T i = 116 ∨ T i = 119
  · refine Or.inl ⟨c, ?_⟩
    have e : sOrd T i = sPair T i := if_pos c
    rw [e] at h ⊢
    obtain ⟨p1, p2⟩ := sPair_ok h
    obtain ⟨o, ho, e1⟩ := vp_in_of p1 (by decide)
    obtain ⟨k, hk, e2⟩ := vp_in_of p2 (by decide)
    refine ⟨o, k, ho, hk, ?_, e1, e2⟩
    rw [← e2]
    unfold sPair at h ⊢
    split
    · rename_i c1
      rw [if_pos c1] at h
      exact absurd h Bool.false_ne_true
    · rename_i c1
      rw [if_neg c1] at h
      split
      · rename_i c2
        rw [if_pos c2] at h
        split
        · rename_i c3
          exact sNum_G c3
        · rename_i c3
          rw [if_neg c3] at h
          exact absurd h Bool.false_ne_true
      · rename_i c2
        rw [if_neg c2] at h
        exact absurd h Bool.false_ne_true
  · unfold OT
    unfold sOrd at h ⊢
    rw [if_neg c] at h ⊢
    by_cases c1 : T i = 99
    · rw [if_pos c1] at h ⊢
      by_cases c2 : (sNum T 0 (i + 1)).1 = true
      · rw [if_pos c2]
        exact Or.inr (Or.inl ⟨c1, wi_roof (sNum_R c2)⟩)
      · rw [if_neg c2] at h
        exact absurd h Bool.false_ne_true
    · rw [if_neg c1] at h
      by_cases c2 : T i = 100
      · exact Or.inr (Or.inr c2)
      · rw [if_neg c2] at h
        exact absurd h Bool.false_ne_true
section RN
variable {rd : Nat → Int32} {sg : Nat → Nat → Int32} {pw : Nat → Int32} {n : Nat}
/-- the class's next order -/
theorem rd_next {i : Nat} (h1 : rd 1 = nI i) (hp : pw 1 = nI n) (hn : n ≤ 60) (hch : CH sg) (hi : i < n) (hs : sOK (sg 0) n i) : (pX2_readNext rd sg pw).1 = 1 ∧ (pX2_readNext rd sg pw).2 1 = nI (if (sOrd (tx (sg 0) n 0) i).2.1 < n then (sOrd (tx (sg 0) n 0) i).2.1 + 1 else (sOrd (tx (sg 0) n 0) i).2.1) ∧ (pX2_readNext rd sg pw).2 2 = nI i ∧ (pX2_readNext rd sg pw).2 3 = tx (sg 0) n 0 i ∧ (tx (sg 0) n 0 i = 104 ∨ tx (sg 0) n 0 i = 116 ∨ tx (sg 0) n 0 i = 119 → (pX2_readNext rd sg pw).2 4 = (sOrd (tx (sg 0) n 0) i).2.2.1 ∧ (pX2_readNext rd sg pw).2 5 = (sOrd (tx (sg 0) n 0) i).2.2.2) ∧ (tx (sg 0) n 0 i = 99 → (pX2_readNext rd sg pw).2 5 = (sOrd (tx (sg 0) n 0) i).2.2.1) := by
  obtain ⟨a1, a2, a3, a4, a5⟩ := rd_order h1 hp hn hch (show i < 800 by omega)
  obtain ⟨s1, s2⟩ := sOK_step (by omega) hn hs
  have hb := sOrd_n s1
  rw [sOrd_e] at a1 a2 a5
  rw [tx_44 hi] at a4 a5
  rw [if_pos s1] at a1
  obtain ⟨b1, b2⟩ := a5 s1
  unfold pX2_readNext
  rw [h1, hp, if_pos (nI_lt hi (by omega))]
  generalize pX2_readOrder rd sg pw = z at a1 a2 a3 a4 b1 b2 ⊢
  rw [a1]
  dsimp only
  rw [rd_sign a2 hp hn (by omega)]
  by_cases c : (sOrd (tx (sg 0) n 0) i).2.1 < n
  · rw [tx_44 c, if_pos (s2 c).1, if_pos c]
    exact ⟨rfl, rfl, a3, a4, b1, b2⟩
  · rw [tx_out c, if_neg (show ¬ (32 : Int32) = 44 by decide), if_neg c]
    exact ⟨rfl, a2, a3, a4, b1, b2⟩
end RN
