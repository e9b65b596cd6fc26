/-! ===== develop: both sides refuse alike ===== -/
theorem bL_ne : ∀ l, l < 64 → ¬ bL l = 0 := by decide +kernel
theorem or_ne {x y : Int64} (h : ¬ y = 0) : ¬ x ||| y = 0 := fun e => h (by
  have h1 := congrArg Int64.toBitVec e
  rw [Int64.toBitVec_or] at h1
  apply Int64.toBitVec_inj.mp
  exact (BitVec.or_eq_zero_iff.mp h1).2)
theorem lop_ne {n sh k : Nat} {nd : Nat → Nat} (hS : shOk sh k) (hn : n ≤ 11) (h1 : ∀ i, i < plN sh k → nd i < n) (h2 : ∀ i j, i < plN sh k → j < plN sh k → i ≠ j → nd i ≠ nd j) : ¬ lopN n sh k nd k = 0 := by
  obtain ⟨b1, b2, b3, b4, b5, b6⟩ := shOk_b hS
  obtain ⟨i, hi⟩ : ∃ i, k = i + 1 := ⟨k - 1, by omega⟩
  have e : lopN n sh k nd k = lopN n sh k nd i ||| bL (lnN n (nd (lsN sh i)) (nd (leN sh k i))) := by
    rw [show lopN n sh k nd k = lopN n sh k nd (i + 1) by rw [← hi]]
    rfl
  rw [e]
  obtain ⟨q1, q2, q3⟩ := b6 i (by omega)
  have := ln_55 hn (h1 _ q1) (h1 _ q2) (h2 _ _ q1 q2 q3)
  exact or_ne (bL_ne _ (by omega))
theorem lp_ne {n sh k : Nat} {row : Nat → Int32} {f : Nat} (hS : shOk sh k) (hn : n ≤ 11) (hn1 : 1 ≤ n) : lpN n sh k row f (plN sh k) = 0 ↔ telN row f (plN sh k) (n - 1) = false := by
  constructor
  · intro h
    cases ht : telN row f (plN sh k) (n - 1) with
    | false => rfl
    | true =>
      obtain ⟨t1, t2⟩ := telN_nd ht (by omega)
      have e : lpN n sh k row f (plN sh k) = lopN n sh k (ndN row f) k := by unfold lpN; rw [ht, decide_eq_true rfl]; rfl
      rw [e] at h
      exact absurd h (lop_ne hS hn (fun i hi => by have := (t1 i hi).2; omega) t2)
  · intro h
    unfold lpN
    rw [h, Bool.and_false]
    rfl
theorem sp_ne {n sh k : Nat} {bN : Nat → Nat} {u : Nat} (hS : shOk sh k) (hn : n ≤ 11) (hn1 : 1 ≤ n) : spN n sh k bN u 0 = 0 ↔ ¬ ∀ i, i < plN sh k → ∀ j, j < i → bN (u * 5 + i) % n ≠ bN (u * 5 + j) % n := by
  unfold spN
  rw [lp_ne hS hn hn1]
  unfold telN
  rw [decide_eq_false_iff_not]
  have key : (∀ i, i < plN sh k → hasN (n - 1 + 1) (nI ((bN (u * 5 + (0 + i)) + 0) % n)) = true ∧ ∀ j, j < i → nI ((bN (u * 5 + (0 + j)) + 0) % n) ≠ nI ((bN (u * 5 + (0 + i)) + 0) % n)) ↔ ∀ i, i < plN sh k → ∀ j, j < i → bN (u * 5 + i) % n ≠ bN (u * 5 + j) % n := by
    simp only [Nat.zero_add, Nat.add_zero]
    constructor
    · intro h i hi j hj e
      exact (h i hi).2 j hj (by rw [e])
    · intro h i hi
      have hm : ∀ x : Nat, x % n < n := fun x => Nat.mod_lt _ (by omega)
      refine ⟨hasN_in (by have := hm (bN (u * 5 + i)); omega) (by omega), fun j hj e => h i hi j hj ?_⟩
      have e2 := congrArg Int32.toInt e
      have a1 := hm (bN (u * 5 + i))
      have a2 := hm (bN (u * 5 + j))
      rw [nI_toInt (by omega), nI_toInt (by omega)] at e2
      omega
  rw [key]
theorem up_iff {n sh k : Nat} {bN : Nat → Nat} (hS : shOk sh k) (hn : n ≤ 11) (hn1 : 1 ≤ n) : ∀ (z b : Nat), upN n sh k bN b z = true ↔ ∀ u, b ≤ u → u < b + z → ∀ i, i < plN sh k → ∀ j, j < i → bN (u * 5 + i) % n ≠ bN (u * 5 + j) % n := by
  intro z
  induction z with
  | zero => exact fun b => ⟨fun _ u h1 h2 => by omega, fun _ => rfl⟩
  | succ z ih =>
    intro b
    have e : upN n sh k bN b (z + 1) = if spN n sh k bN b 0 = 0 then false else upN n sh k bN (b + 1) z := rfl
    rw [e]
    by_cases q : spN n sh k bN b 0 = 0
    · rw [if_pos q]
      have q2 := (sp_ne hS hn hn1).mp q
      exact ⟨(fun h => by cases h), fun h => absurd (h b (Nat.le_refl _) (by omega)) q2⟩
    · rw [if_neg q, ih (b + 1)]
      have q2 : ∀ i, i < plN sh k → ∀ j, j < i → bN (b * 5 + i) % n ≠ bN (b * 5 + j) % n := Decidable.not_not.mp (fun z => q ((sp_ne hS hn hn1).mpr z))
      constructor
      · intro h u h1 h2
        by_cases qu : u = b
        · rw [qu]; exact q2
        · exact h u (by omega) (by omega)
      · intro h u h1 h2
        exact h u (by omega) (by omega)
theorem bd_zero {sh k m : Nat} {bN : Nat → Nat} (hm : 3 ≤ m) : bdN sh k bN m 0 0 (m / 2 + 1) ≠ -1 := by
  obtain ⟨z, hz⟩ : ∃ z, m / 2 + 1 = z + 1 + 1 := ⟨m / 2 - 1, by omega⟩
  rw [hz]
  have e0 : bdN sh k bN m 0 0 (z + 1 + 1) = if cvN sh k bN m 0 0 = dueN m 0 then bdN sh k bN m 0 1 (z + 1) else nI 0 := rfl
  have e1 : bdN sh k bN m 0 1 (z + 1) = if cvN sh k bN m 1 0 = dueN m 1 then bdN sh k bN m 0 2 z else nI 1 := rfl
  have d0 : dueN m 0 = 0 := if_pos (Or.inl rfl)
  have d1 : dueN m 1 = 1 := if_neg (by omega)
  rw [e0, d0, if_pos (show cvN sh k bN m 0 0 = 0 from rfl), e1, d1, if_neg (by show ¬ (0 : Nat) = 1; omega)]
  decide
theorem cd_iff {n sh k bc : Nat} {bN : Nat → Nat} (hS : shOk sh k) (hn : n ≤ 11) (hn1 : 1 ≤ n) : cdN n sh k bN bc = true ↔ ¬ (n < 3 ∨ bc = 0 ∨ bdN sh k bN n bc 0 (n / 2 + 1) ≠ -1 ∨ ¬ unP (plN sh k) bc bN n) := by
  unfold cdN
  by_cases q : n < 3 ∨ bdN sh k bN n bc 0 (n / 2 + 1) ≠ -1
  · rw [if_pos q]
    constructor
    · intro h; cases h
    · intro h
      exact absurd (by rcases q with q | q; exact Or.inl q; exact Or.inr (Or.inr (Or.inl q))) h
  · rw [if_neg q, up_iff hS hn hn1]
    have q0 : bc ≠ 0 := by
      intro e
      apply q
      rw [e]
      by_cases h3 : n < 3
      · exact Or.inl h3
      · exact Or.inr (bd_zero (by omega))
    constructor
    · intro h
      rintro (h1 | h1 | h1 | h1)
      · exact q (Or.inl h1)
      · exact q0 h1
      · exact q (Or.inr h1)
      · exact h1 (fun u hu => h u (Nat.zero_le _) (by omega))
    · intro h u h1 h2
      have : unP (plN sh k) bc bN n := Decidable.not_not.mp (fun z => h (Or.inr (Or.inr (Or.inr z))))
      exact this u (by omega)
