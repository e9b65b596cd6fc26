/-! nodes of a set of lines -/
theorem nI_or (a b : Nat) : nI a ||| nI b = nI (a ||| b) := by
  apply Int32.toBitVec_inj.mp
  rw [Int32.toBitVec_or]
  show BitVec.ofNat 32 a ||| BitVec.ofNat 32 b = BitVec.ofNat 32 (a ||| b)
  apply BitVec.eq_of_toNat_eq
  rw [BitVec.toNat_or, BitVec.toNat_ofNat, BitVec.toNat_ofNat, BitVec.toNat_ofNat, Nat.or_mod_two_pow]
theorem shl_nI : ∀ a, a < 31 → nI 1 <<< (nI a &&& 31) = nI (2 ^ a) := by decide +kernel
def ndI (x : Int64) (n a : Nat) : Nat → Nat → Nat
  | 0, v => v
  | b + 1, v => if btL x (lnN n a b) = true then ndI x n a b v ||| (2 ^ a ||| 2 ^ b) else ndI x n a b v
def ndO (x : Int64) (n : Nat) : Nat → Nat
  | 0 => 0
  | a + 1 => ndI x n a a (ndO x n a)
set_option maxRecDepth 100000 in
theorem m_nodesOf (adK : Nat → Nat) (d : Nat) (Y : MN) (P : Nat → MN) (a : G0) (b : G1) (c : G3) (e : G4) (f : G5) (g : G6) (h : G7) (x : Int64) (hn : Y.1 ≤ 11) : pnCt mX7_nodesOf adK (d + 2) 0 0 [.ref 0, .long x] (hM Y P a b c e f g h) (pnIs (.inl (some (.int (nI (ndO x Y.1 Y.1))))) (hM Y P a b c e f g h)) := by
  refine pnCt_of (by decide) kX7_nodesOf (Nat.le_of_ble_eq_true rfl) rfl hM_cl (pnCS_b rfl) ?_
  have outer : ∀ (z i : Nat), i + z = Y.1 → pnWP mX7_nodesOf adK (d + 2) (pnIs (.inl (some (.int (nI (ndO x Y.1 Y.1))))) (hM Y P a b c e f g h)) 0 0 (hM Y P a b c e f g h) [some (.ref 0), some (.long x), none, some (.int (nI (ndO x Y.1 i))), some (.int (nI Y.1)), some (.int (nI i))] [] 14 := by
    intro z
    induction z with
    | zero =>
      intro i hz
      refine pn_iload (q := 16) dX7_nodesOf_14 rfl rfl ?_
      refine pn_iload (q := 18) dX7_nodesOf_16 rfl rfl ?_
      first | refine pn_nge (q := 21) (tgt := 73) dX7_nodesOf_18 (by decide) rfl (by omega) (by omega) (fun hc18 => ?_) (fun hc18 => ?_) | refine pn_icmp_ge (q := 21) (tgt := 73) dX7_nodesOf_18 (by decide) rfl (fun hc18 => ?_) (fun hc18 => ?_)
      · refine pn_iload_n (q := 74) dX7_nodesOf_73 rfl rfl ?_
        refine pn_iret dX7_nodesOf_74 rfl ?_
        exact ⟨by rw [show i = Y.1 by omega], rfl⟩
      · omega
    | succ z ih =>
      intro i hz
      have k9 := ih (i + 1) (by omega)
      have inner : ∀ (y j : Nat), j + y = i → pnWP mX7_nodesOf adK (d + 2) (pnIs (.inl (some (.int (nI (ndO x Y.1 Y.1))))) (hM Y P a b c e f g h)) 0 0 (hM Y P a b c e f g h) [some (.ref 0), some (.long x), none, some (.int (nI (ndI x Y.1 i j (ndO x Y.1 i)))), some (.int (nI Y.1)), some (.int (nI i)), some (.int (nI j))] [] 24 := by
        intro y
        induction y with
        | zero =>
          intro j hy
          refine pn_iload (q := 26) dX7_nodesOf_24 rfl rfl ?_
          refine pn_iload (q := 28) dX7_nodesOf_26 rfl rfl ?_
          first | refine pn_nge (q := 31) (tgt := 67) dX7_nodesOf_28 (by decide) rfl (by omega) (by omega) (fun hc28 => ?_) (fun hc28 => ?_) | refine pn_icmp_ge (q := 31) (tgt := 67) dX7_nodesOf_28 (by decide) rfl (fun hc28 => ?_) (fun hc28 => ?_)
          · first | refine pn_iinc1 (q := 70) dX7_nodesOf_67 rfl rfl (by decide) ?_ | refine pn_iinc (q := 70) (mm := 1) dX7_nodesOf_67 rfl rfl (by decide) (by decide) ?_
            refine pn_goto (q := 14) dX7_nodesOf_70 (by decide) ?_
            (have e9 : ndO x Y.1 (i + 1) = ndI x Y.1 i j (ndO x Y.1 i) := by (rw [show j = i by omega]; rfl)); rw [e9] at k9; exact pn_take 6 k9
          · omega
        | succ y ih2 =>
          intro j hy
          have k8 := ih2 (j + 1) (by omega)
          have hl := ln_55 hn (show i < Y.1 by omega) (show j < Y.1 by omega) (show i ≠ j by omega)
          have e2 : ndI x Y.1 i (j + 1) (ndO x Y.1 i) = if btL x (lnN Y.1 i j) = true then ndI x Y.1 i j (ndO x Y.1 i) ||| (2 ^ i ||| 2 ^ j) else ndI x Y.1 i j (ndO x Y.1 i) := rfl
          rw [e2] at k8
          refine pn_iload (q := 26) dX7_nodesOf_24 rfl rfl ?_
          refine pn_iload (q := 28) dX7_nodesOf_26 rfl rfl ?_
          first | refine pn_nge (q := 31) (tgt := 67) dX7_nodesOf_28 (by decide) rfl (by omega) (by omega) (fun hc28 => ?_) (fun hc28 => ?_) | refine pn_icmp_ge (q := 31) (tgt := 67) dX7_nodesOf_28 (by decide) rfl (fun hc28 => ?_) (fun hc28 => ?_)
          · omega
          · refine pn_lload_n (q := 32) dX7_nodesOf_31 rfl rfl ?_
            refine pn_iload (q := 34) dX7_nodesOf_32 rfl rfl ?_
            refine pn_iload (q := 36) dX7_nodesOf_34 rfl rfl ?_
            refine pn_iload (q := 38) dX7_nodesOf_36 rfl rfl ?_
            refine pn_roS1 (q := 41) (m_lineOf adK d Y.1 i j hn (by omega) (by omega) (by omega)) lkX7_96 dX7_nodesOf_38 rfl rfl (pnSel_of (I := []) rfl rfl) (pnFree_none rfl) rfl (by omega) (Nat.le_of_ble_eq_true rfl) rfl ?_
            refine pn_lshr (q := 42) dX7_nodesOf_41 rfl ?_
            refine pn_lconst (q := 43) (v := lN 1) dX7_nodesOf_42 rfl (by decide) ?_
            refine pn_land (q := 44) dX7_nodesOf_43 rfl ?_; rw [show (x >>> ((nI (lnN Y.1 i j)).toInt64 &&& 63)) &&& lN 1 = lN (btL x (lnN Y.1 i j)).toNat from biL_eq _ (by omega)]
            refine pn_lconst (q := 45) (v := lN 1) dX7_nodesOf_44 rfl (by decide) ?_
            refine pn_lne (q1 := 46) (q := 49) (tgt := 61) dX7_nodesOf_45 rfl dX7_nodesOf_46 (by decide) rfl (fun hc45 => ?_) (fun hc45 => ?_)
            · first | refine pn_iinc1 (q := 64) dX7_nodesOf_61 rfl rfl (by decide) ?_ | refine pn_iinc (q := 64) (mm := 1) dX7_nodesOf_61 rfl rfl (by decide) (by decide) ?_
              refine pn_goto (q := 24) dX7_nodesOf_64 (by decide) ?_
              first | (rw [if_pos (by cases h9 : btL x (lnN Y.1 i j) with | true => rfl | false => exact ((by rw [h9]; decide : ¬ lN (btL x (lnN Y.1 i j)).toNat = lN 1) (by first | exact hc45 | exact Decidable.not_not.mp hc45)).elim)] at k8; exact k8) | (rw [if_neg (by intro h9; rw [h9] at hc45; exact hc45 rfl)] at k8; exact k8)
            · refine pn_iload_n (q := 50) dX7_nodesOf_49 rfl rfl ?_
              refine pn_iconst (q := 51) (v := nI 1) dX7_nodesOf_50 rfl (by decide) ?_
              refine pn_iload (q := 53) dX7_nodesOf_51 rfl rfl ?_
              refine pn_ishl (q := 54) dX7_nodesOf_53 rfl ?_; rw [shl_nI i (by omega)]
              refine pn_iconst (q := 55) (v := nI 1) dX7_nodesOf_54 rfl (by decide) ?_
              refine pn_iload (q := 57) dX7_nodesOf_55 rfl rfl ?_
              refine pn_ishl (q := 58) dX7_nodesOf_57 rfl ?_; rw [shl_nI j (by omega)]
              refine pn_ior (q := 59) dX7_nodesOf_58 rfl ?_; rw [nI_or]
              refine pn_ior (q := 60) dX7_nodesOf_59 rfl ?_; rw [nI_or]
              refine pn_istore_n (q := 61) dX7_nodesOf_60 rfl (by decide) ?_
              first | refine pn_iinc1 (q := 64) dX7_nodesOf_61 rfl rfl (by decide) ?_ | refine pn_iinc (q := 64) (mm := 1) dX7_nodesOf_61 rfl rfl (by decide) (by decide) ?_
              refine pn_goto (q := 24) dX7_nodesOf_64 (by decide) ?_
              first | (rw [if_pos (by cases h9 : btL x (lnN Y.1 i j) with | true => rfl | false => exact ((by rw [h9]; decide : ¬ lN (btL x (lnN Y.1 i j)).toNat = lN 1) (by first | exact hc45 | exact Decidable.not_not.mp hc45)).elim)] at k8; exact k8) | (rw [if_neg (by intro h9; rw [h9] at hc45; exact hc45 rfl)] at k8; exact k8)
      refine pn_iload (q := 16) dX7_nodesOf_14 rfl rfl ?_
      refine pn_iload (q := 18) dX7_nodesOf_16 rfl rfl ?_
      first | refine pn_nge (q := 21) (tgt := 73) dX7_nodesOf_18 (by decide) rfl (by omega) (by omega) (fun hc18 => ?_) (fun hc18 => ?_) | refine pn_icmp_ge (q := 21) (tgt := 73) dX7_nodesOf_18 (by decide) rfl (fun hc18 => ?_) (fun hc18 => ?_)
      · omega
      · refine pn_iconst (q := 22) (v := nI 0) dX7_nodesOf_21 rfl (by decide) ?_
        refine pn_istore (q := 24) dX7_nodesOf_22 rfl (by decide) ?_
        exact inner i 0 (by omega)
  refine pn_iconst (q := 1) (v := nI 0) dX7_nodesOf_0 rfl (by decide) ?_
  refine pn_istore_n (q := 2) dX7_nodesOf_1 rfl (by decide) ?_
  refine pn_aload_n (q := 3) dX7_nodesOf_2 rfl rfl rfl ?_
  refine pn_get (q := 6) fX7_20 dX7_nodesOf_3 rfl rfl rfl ?_
  refine pn_iconst (q := 7) (v := nI 0) dX7_nodesOf_6 rfl (by decide) ?_
  (first | refine pn_lald1 (q := 8) dX7_nodesOf_7 rfl rfl rfl (by omega) (by first | decide | omega) ?_ | refine pn_lald5 (q := 8) dX7_nodesOf_7 rfl rfl rfl (by omega) (by first | decide | omega) ?_); refine pn_eq (h' := _) (st' := .long (lN Y.1) :: _) rfl rfl ?_
  first | with_reducible refine pn_l2iN (q := 9) dX7_nodesOf_8 rfl ?_ | refine pn_l2i (q := 9) dX7_nodesOf_8 rfl ?_
  refine pn_istore (q := 11) dX7_nodesOf_9 rfl (by decide) ?_
  refine pn_iconst (q := 12) (v := nI 0) dX7_nodesOf_11 rfl (by decide) ?_
  refine pn_istore (q := 14) dX7_nodesOf_12 rfl (by decide) ?_
  exact outer Y.1 0 (by omega)
/-! node -/
theorem ndI_bit (x : Int64) (n a t : Nat) : ∀ b v, (ndI x n a b v).testBit t = (v.testBit t || decide (∃ j, j < b ∧ btL x (lnN n a j) = true ∧ (t = a ∨ t = j)))
  | 0, v => by
    show v.testBit t = _
    rw [decide_eq_false (by intro ⟨j, h, _⟩; omega), Bool.or_false]
  | b + 1, v => by
    have ih := ndI_bit x n a t b v
    unfold ndI
    by_cases h : btL x (lnN n a b) = true
    · rw [if_pos h, Nat.testBit_or, Nat.testBit_or, Nat.testBit_two_pow, Nat.testBit_two_pow, ih]
      by_cases q : ∃ j, j < b + 1 ∧ btL x (lnN n a j) = true ∧ (t = a ∨ t = j)
      · rw [decide_eq_true q]
        obtain ⟨j, h1, h2, h3⟩ := q
        by_cases e : j = b
        · subst e
          rcases h3 with h3 | h3
          · rw [decide_eq_true (show a = t by omega)]; simp
          · rw [decide_eq_true (show j = t by omega)]; simp
        · rw [decide_eq_true (show ∃ j, j < b ∧ btL x (lnN n a j) = true ∧ (t = a ∨ t = j) from ⟨j, by omega, h2, h3⟩)]; simp
      · rw [decide_eq_false q, decide_eq_false (fun h9 => q (by obtain ⟨j, h1, h2⟩ := h9; exact ⟨j, by omega, h2⟩)), decide_eq_false (fun h9 : a = t => q ⟨b, by omega, h, Or.inl h9.symm⟩), decide_eq_false (fun h9 : b = t => q ⟨b, by omega, h, Or.inr h9.symm⟩)]
        simp
    · rw [if_neg h, ih]
      congr 1
      apply decide_eq_decide.mpr
      constructor
      · rintro ⟨j, h1, h2⟩; exact ⟨j, by omega, h2⟩
      · rintro ⟨j, h1, h2, h3⟩
        refine ⟨j, ?_, h2, h3⟩
        by_cases e : j = b
        · subst e; exact (h h2).elim
        · omega
theorem lnN_sym (n a b : Nat) : lnN n a b = lnN n b a := by unfold lnN; rw [Nat.min_comm, Nat.max_comm]
theorem ndO_bit (x : Int64) (n t : Nat) : ∀ m, (ndO x n m).testBit t = decide (∃ i, i < m ∧ ∃ j, j < i ∧ btL x (lnN n i j) = true ∧ (t = i ∨ t = j))
  | 0 => by
    show (0 : Nat).testBit t = _
    rw [Nat.zero_testBit, decide_eq_false (by intro ⟨i, h, _⟩; omega)]
  | m + 1 => by
    have ih := ndO_bit x n t m
    show (ndI x n m m (ndO x n m)).testBit t = _
    rw [ndI_bit, ih]
    rw [← Bool.decide_or]
    apply decide_eq_decide.mpr
    constructor
    · rintro (⟨i, h1, h2⟩ | ⟨j, h1, h2⟩)
      · exact ⟨i, by omega, h2⟩
      · exact ⟨m, by omega, j, h1, h2⟩
    · rintro ⟨i, h1, j, h2, h3⟩
      by_cases e : i = m
      · subst e; exact Or.inr ⟨j, h2, h3⟩
      · exact Or.inl ⟨i, by omega, j, h2, h3⟩
theorem lasN_bit (n a : Nat) (hn : n ≤ 11) (ha : a < n) (k : Nat) : ∀ b, b ≤ n → btL (lasN n a b) k = decide (∃ j, j < b ∧ j ≠ a ∧ lnN n a j = k)
  | 0, _ => by
    show btL 0 k = _
    rw [btL_0, decide_eq_false (by intro ⟨j, h, _⟩; omega)]
  | b + 1, hb => by
    have ih := lasN_bit n a hn ha k b (by omega)
    show btL (if b = a then lasN n a b else lasN n a b ||| bL (lnN n a b)) k = _
    by_cases e : b = a
    · rw [if_pos e, ih]
      apply decide_eq_decide.mpr
      constructor
      · rintro ⟨j, h1, h2⟩; exact ⟨j, by omega, h2⟩
      · rintro ⟨j, h1, h2⟩; exact ⟨j, by omega, h2⟩
    · rw [if_neg e, btL_or, ih, btL_bL (by have := ln_55 hn ha (show b < n by omega) (fun q => e q.symm); omega), ← Bool.decide_or]
      apply decide_eq_decide.mpr
      constructor
      · rintro (⟨j, h1, h2⟩ | h1)
        · exact ⟨j, by omega, h2⟩
        · exact ⟨b, by omega, e, h1⟩
      · rintro ⟨j, h1, h2, h3⟩
        by_cases e2 : j = b
        · subst e2; exact Or.inr h3
        · exact Or.inl ⟨j, by omega, h2, h3⟩
/-- a set meets the lines at a node -/
theorem meets_iff (x : Int64) {n a : Nat} (hn : n ≤ 11) (ha : a < n) : (x &&& lasN n a n = 0) ↔ (ndO x n n).testBit a = false := by
  rw [ndO_bit]
  constructor
  · intro h
    apply decide_eq_false
    rintro ⟨i, h1, j, h2, h3, h4⟩
    have hl := ln_55 hn (show i < n by omega) (show j < n by omega) (by omega)
    have h5 : btL (lasN n a n) (lnN n i j) = true := by
      rw [lasN_bit n a hn ha _ n (Nat.le_refl _)]
      apply decide_eq_true
      rcases h4 with e | e
      · subst e; exact ⟨j, by omega, by omega, rfl⟩
      · subst e; exact ⟨i, h1, by omega, lnN_sym _ _ _⟩
    have h6 := congrArg (fun z => btL z (lnN n i j)) h
    rw [btL_and, h3, h5, btL_0] at h6
    cases h6
  · intro h
    have h := of_decide_eq_false h
    apply btL_ext
    intro k hk
    rw [btL_and, btL_0, lasN_bit n a hn ha _ n (Nat.le_refl _)]
    cases hx : btL x k with
    | false => rfl
    | true =>
      rw [Bool.true_and]
      apply decide_eq_false
      rintro ⟨j, h1, h2, h3⟩
      apply h
      rcases Nat.lt_or_ge j a with q | q
      · exact ⟨a, ha, j, q, by rw [h3]; exact hx, Or.inl rfl⟩
      · exact ⟨j, h1, a, by omega, by rw [lnN_sym, h3]; exact hx, Or.inr rfl⟩
theorem ndO_lt (x : Int64) {n : Nat} (hn : n ≤ 11) : ndO x n n < 2048 := by
  apply Nat.lt_pow_two_of_testBit (n := 11)
  intro t ht
  rw [ndO_bit]
  apply decide_eq_false
  rintro ⟨i, h1, j, h2, h3, h4⟩
  omega
theorem bit_nI : ∀ m, m < 2048 → ∀ i, i < 11 → (nI m >>> (nI i &&& 31)) &&& nI 1 = nI (m.testBit i).toNat := by decide +kernel
