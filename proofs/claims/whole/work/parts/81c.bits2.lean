/-! ===== bits of a long ===== -/
def btL (x : Int64) (k : Nat) : Bool := (uN x).testBit k
theorem btN_btL (x : Int64) (k : Nat) : btN (uN x) k = (btL x k).toNat := by
  unfold btN btL
  rw [Nat.toNat_testBit]
theorem uN_or (x y : Int64) : uN (x ||| y) = uN x ||| uN y := by
  show (x.toUInt64 ||| y.toUInt64).toNat = _
  exact UInt64.toNat_or _ _
theorem uN_xor (x y : Int64) : uN (x ^^^ y) = uN x ^^^ uN y := by
  show (x.toUInt64 ^^^ y.toUInt64).toNat = _
  exact UInt64.toNat_xor _ _
theorem btL_and (x y : Int64) (k : Nat) : btL (x &&& y) k = (btL x k && btL y k) := by unfold btL; rw [uN_and, Nat.testBit_and]
theorem btL_or (x y : Int64) (k : Nat) : btL (x ||| y) k = (btL x k || btL y k) := by unfold btL; rw [uN_or, Nat.testBit_or]
theorem btL_xor (x y : Int64) (k : Nat) : btL (x ^^^ y) k = (btL x k ^^ btL y k) := by unfold btL; rw [uN_xor, Nat.testBit_xor]
theorem btL_big (x : Int64) {k : Nat} (h : 64 ≤ k) : btL x k = false := Nat.testBit_lt_two_pow (Nat.lt_of_lt_of_le (show uN x < 2 ^ 64 from uN_lt x) (Nat.pow_le_pow_right (by omega) h))
theorem btL_m1 : ∀ k, k < 64 → btL (-1) k = true := by decide +kernel
theorem btL_not (x : Int64) {k : Nat} (h : k < 64) : btL (x ^^^ (-1)) k = !btL x k := by rw [btL_xor, btL_m1 k h]; cases btL x k <;> rfl
theorem btL_ext {x y : Int64} (h : ∀ k, k < 64 → btL x k = btL y k) : x = y := by
  apply uN_inj
  apply Nat.eq_of_testBit_eq
  intro k
  rcases Nat.lt_or_ge k 64 with h1 | h1
  · exact h k h1
  · exact (btL_big x h1).trans (btL_big y h1).symm
theorem btL_0 (k : Nat) : btL 0 k = false := by
  show (0 : Nat).testBit k = false
  exact Nat.zero_testBit k
theorem bL_u : ∀ j, j < 64 → uN (bL j) = 2 ^ j := by decide +kernel
theorem btL_bL {j : Nat} (hj : j < 64) (k : Nat) : btL (bL j) k = decide (j = k) := by
  unfold btL
  rw [bL_u j hj, Nat.testBit_two_pow]
theorem btL_ne {x : Int64} (h : ¬ x = 0) : ∃ k, k < 64 ∧ btL x k = true := by
  refine Classical.byContradiction fun q => h (btL_ext fun k hk => ?_)
  rw [btL_0]
  cases e : btL x k with
  | false => rfl
  | true => exact (q ⟨k, hk, e⟩).elim
theorem sh_l : ∀ n, n < 64 → (((nI n).toInt64 &&& 63).toBitVec.smod 64).toNat = n := by decide +kernel
theorem biL_eq (x : Int64) {k : Nat} (hk : k < 64) : biL x k = lN (btL x k).toNat := by
  have h0 : btL (x >>> ((nI k).toInt64 &&& 63)) 0 = btL x k := by
    show (x >>> ((nI k).toInt64 &&& 63)).toBitVec.getLsbD 0 = x.toBitVec.getLsbD k
    rw [Int64.toBitVec_shiftRight]
    show (x.toBitVec.sshiftRight (((nI k).toInt64 &&& 63).toBitVec.smod 64).toNat).getLsbD 0 = _
    rw [sh_l k hk, BitVec.getLsbD_sshiftRight]
    simp [hk]
  apply btL_ext
  intro i hi
  unfold biL
  rw [btL_and]
  cases i with
  | zero =>
    rw [h0]
    cases btL x k <;> rfl
  | succ i =>
    have e1 : btL (lN 1) (i + 1) = false := (show ∀ i, i < 63 → btL (lN 1) (i + 1) = false by decide +kernel) i (by omega)
    have e2 : btL (lN 0) (i + 1) = false := btL_0 _
    rw [e1]
    cases btL x k with
    | false => show (_ && false) = btL (lN 0) (i + 1); rw [e2, Bool.and_false]
    | true => show (_ && false) = btL (lN 1) (i + 1); rw [e1, Bool.and_false]
theorem smB_congr {f g : Nat → Nat} : ∀ {n : Nat}, (∀ i, i < n → f i = g i) → smB f n = smB g n
  | 0, _ => rfl
  | n + 1, h => by show smB f n + f n = smB g n + g n; rw [smB_congr (fun i hi => h i (by omega)), h n (by omega)]
theorem smB_le {f : Nat → Nat} (hf : ∀ i, f i ≤ 1) : ∀ n, smB f n ≤ n
  | 0 => Nat.le_refl _
  | n + 1 => by have := smB_le hf n; have := hf n; show smB f n + f n ≤ n + 1; omega
theorem smB_top {f : Nat → Nat} {a : Nat} (h : ∀ i, a ≤ i → f i = 0) : ∀ n, smB f (a + n) = smB f a
  | 0 => rfl
  | n + 1 => by show smB f (a + n) + f (a + n) = smB f a; rw [smB_top h n, h _ (by omega)]; rfl
theorem onN_eq (x : Int64) : ∀ k, k ≤ 64 → onN x k = nI (smB (btN (uN x)) k)
  | 0, _ => rfl
  | k + 1, h => by
    have ih := onN_eq x k (by omega)
    have hb := smB_le (f := btN (uN x)) (fun i => by unfold btN; omega) k
    show ((onN x k).toInt64 + biL x k).toInt32 = nI (smB (btN (uN x)) k + btN (uN x) k)
    rw [ih, biL_eq x (by omega), nI_l (by omega), btN_btL, lN_add, lN_i]
/-- a set of lines -/
def ok55 (x : Int64) : Prop := ∀ k, 55 ≤ k → btL x k = false
theorem ones_pc {x : Int64} (h : ok55 x) : onN x 55 = nI (pcN x) := by
  have e : smB (btN (uN x)) 64 = smB (btN (uN x)) 55 := smB_top (a := 55) (fun i hi => by rw [btN_btL, h i hi]; rfl) 9
  rw [onN_eq x 55 (by omega), pcN_eq, e]
theorem isLo_iff {x : Int64} {k : Nat} (h : k < 64) : isLo x k ↔ (btL x k = true ∧ ∀ j, j < k → btL x j = false) := by
  unfold isLo
  rw [biL_eq x h]
  constructor
  · intro q
    refine ⟨?_, fun j hj => ?_⟩
    · cases e : btL x k with
      | true => rfl
      | false => rw [e] at q; exact (q.2.1 rfl).elim
    · have := q.2.2 j hj
      rw [biL_eq x (by omega)] at this
      cases e : btL x j with
      | false => rfl
      | true => rw [e] at this; exact ((show ¬ lN 1 = lN 0 by decide) this).elim
  · intro q
    refine ⟨h, ?_, fun j hj => ?_⟩
    · rw [q.1]; decide
    · rw [biL_eq x (by omega), q.2 j hj]; rfl
theorem least_ex : ∀ (n : Nat) (p : Nat → Bool), (∃ k, k < n ∧ p k = true) → ∃ k, k < n ∧ p k = true ∧ ∀ j, j < k → p j = false
  | 0, p, h => by obtain ⟨k, hk, -⟩ := h; omega
  | n + 1, p, h => by
    cases e : p 0 with
    | true => exact ⟨0, by omega, e, fun j hj => by omega⟩
    | false =>
      obtain ⟨k, hk, hp⟩ := h
      cases k with
      | zero => rw [e] at hp; cases hp
      | succ k =>
        obtain ⟨q, h1, h2, h3⟩ := least_ex n (fun i => p (i + 1)) ⟨k, by omega, hp⟩
        refine ⟨q + 1, by omega, h2, fun j hj => ?_⟩
        cases j with
        | zero => exact e
        | succ j => exact h3 j (by omega)
theorem isLo_ex {x : Int64} (h : ¬ x = 0) : ∃ k, k < 64 ∧ isLo x k := by
  obtain ⟨k, h1, h2, h3⟩ := least_ex 64 (btL x) (btL_ne h)
  exact ⟨k, h1, (isLo_iff h1).mpr ⟨h2, h3⟩⟩
theorem uN_neg {x : Int64} (h : ¬ uN x = 0) : uN (-x) = 18446744073709551616 - uN x := by
  show (-x.toUInt64).toNat = _
  rw [UInt64.toNat_neg]
  have := uN_lt x
  show (18446744073709551616 - uN x) % 18446744073709551616 = _
  omega
theorem neg_bit {x : Int64} {k : Nat} (hk : k < 64) (h1 : btL x k = true) (h2 : ∀ j, j < k → btL x j = false) : x &&& (-x) = bL k := by
  have hx := uN_lt x
  have hm : uN x % 2 ^ (k + 1) = 2 ^ k := by
    apply Nat.eq_of_testBit_eq
    intro i
    rw [Nat.testBit_mod_two_pow, Nat.testBit_two_pow]
    rcases Nat.lt_trichotomy i k with h | h | h
    · rw [show (uN x).testBit i = false from h2 i h]; simp; omega
    · subst h; rw [show (uN x).testBit i = true from h1]; simp
    · rw [decide_eq_false (by omega), decide_eq_false (by omega)]; rfl
  obtain ⟨m, he⟩ : ∃ m, uN x = 2 ^ (k + 1) * m + 2 ^ k := ⟨uN x / 2 ^ (k + 1), by have := Nat.div_add_mod (uN x) (2 ^ (k + 1)); omega⟩
  have hp : 0 < 2 ^ k := Nat.two_pow_pos k
  have hlt : 2 ^ k - 1 < 2 ^ (k + 1) := by rw [Nat.pow_succ]; omega
  have hlt2 : 2 ^ k < 2 ^ (k + 1) := by rw [Nat.pow_succ]; omega
  have hne : ¬ uN x = 0 := by omega
  have e1 : uN x - 1 = 2 ^ (k + 1) * m + (2 ^ k - 1) := by omega
  apply uN_inj
  rw [uN_and, uN_neg hne, bL_u k hk]
  apply Nat.eq_of_testBit_eq
  intro i
  rw [Nat.testBit_and, Nat.testBit_two_pow, show 18446744073709551616 - uN x = 2 ^ 64 - ((uN x - 1) + 1) by omega, Nat.testBit_two_pow_sub_succ (by omega), e1, he, Nat.testBit_two_pow_mul_add _ hlt2, Nat.testBit_two_pow_mul_add _ hlt]
  rcases Nat.lt_trichotomy i k with h | h | h
  · rw [if_pos (by omega), if_pos (by omega), Nat.testBit_two_pow]
    simp; omega
  · subst h
    rw [if_pos (by omega), if_pos (by omega), Nat.testBit_two_pow, Nat.testBit_two_pow_sub_one]
    simp [hk]
  · rw [if_neg (by omega), if_neg (by omega)]
    cases m.testBit (i - (k + 1)) <;> simp <;> omega
theorem low_cnt : ∀ k, k < 64 → smB (btN (2 ^ k - 1)) 64 = k := by decide +kernel
theorem llN_lo {x : Int64} {k : Nat} (hk : isLo x k) : llN x = k := by
  have h64 := hk.1
  obtain ⟨h1, h2⟩ := (isLo_iff h64).mp hk
  unfold llN
  rw [neg_bit h64 h1 h2, pcN_eq]
  have : uN (bL k - 1) = 2 ^ k - 1 := by
    rw [uN_sub (by rw [bL_u k h64]; have := Nat.two_pow_pos k; exact this), bL_u k h64]; rfl
  rw [this]
  exact low_cnt k h64
theorem llN_0 : llN 0 = 64 := by
  unfold llN
  rw [pcN_eq]
  decide +kernel
theorem llN_lt {x : Int64} (h : ¬ x = 0) : llN x < 64 ∧ isLo x (llN x) := by
  obtain ⟨k, h1, h2⟩ := isLo_ex h
  rw [llN_lo h2]
  exact ⟨h1, h2⟩
theorem cfN_lo {x y : Int64} {k : Nat} (hk : isLo (x ^^^ y) k) : cfN x y = btL x k := by
  have h64 := hk.1
  obtain ⟨h1, h2⟩ := (isLo_iff h64).mp hk
  have e := neg_bit h64 h1 h2
  have e2 : (x &&& (x ^^^ y)) &&& (-(x ^^^ y)) = x &&& bL k := by rw [← e, Int64.and_assoc]
  unfold cfN
  rw [e2]
  cases hb : btL x k with
  | true =>
    apply decide_eq_true
    intro q
    have := congrArg (fun z => btL z k) q
    rw [btL_and, btL_bL h64, btL_0, hb] at this
    simp at this
  | false =>
    apply decide_eq_false
    intro q
    refine q (btL_ext fun i hi => ?_)
    rw [btL_and, btL_bL h64, btL_0]
    by_cases e9 : k = i
    · subst e9; rw [hb]; rfl
    · rw [decide_eq_false e9, Bool.and_false]
theorem cfN_same (x : Int64) : cfN x x = false := by
  unfold cfN
  apply decide_eq_false
  intro q
  apply q
  rw [Int64.xor_self, Int64.and_zero, Int64.zero_and]
theorem m_least (adK : Nat → Nat) (d : Nat) (x : Int64) (h : ¬ x = 0) : pnCt mX7_leastOf adK d 0 0 [.long x] [] (pnIs (.inl (some (.int (nI (llN x))))) []) := m_leastOf adK d x (llN x) (llN_lt h).2
theorem m_ahead (adK : Nat → Nat) (d : Nat) (x y : Int64) : pnCt mX7_isAhead adK (d + 1) 0 0 [.long x, .long y] [] (pnIs (.inl (some (.int (nB (cfN x y))))) []) := by
  by_cases h : x ^^^ y = 0
  · have e : x = y := by
      apply btL_ext
      intro k hk
      have := congrArg (fun z => btL z k) h
      rw [btL_xor, btL_0] at this
      cases h1 : btL x k <;> cases h2 : btL y k <;> rw [h1, h2] at this <;> first | rfl | cases this
    subst e
    rw [cfN_same]
    exact m_isAhead0 adK d x
  · obtain ⟨k, h1, h2⟩ := isLo_ex h
    have := m_isAhead adK d x y k h2 h
    rw [show decide (biL x k = lN 1) = cfN x y by
      rw [cfN_lo h2, biL_eq x h1]
      cases btL x k <;> rfl] at this
    exact this
