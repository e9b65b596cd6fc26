/-! ===== parts: nodes that tell one ===== -/
def ndOk (n pl : Nat) (nd : Nat → Nat) : Prop := (∀ i, i < pl → nd i < n) ∧ ∀ i, i < pl → ∀ j, j < i → nd j ≠ nd i
def ptP (n sh k : Nat) (x : Int64) : Prop := ∃ nd : Nat → Nat, ndOk n (plN sh k) nd ∧ x = lopN n sh k nd k
theorem ndOk.ne {n pl : Nat} {nd : Nat → Nat} (h : ndOk n pl nd) {i j : Nat} (hi : i < pl) (hj : j < pl) (hij : i ≠ j) : nd i ≠ nd j := by
  rcases Nat.lt_or_gt_of_ne hij with q | q
  · exact h.2 j hj i q
  · exact Ne.symm (h.2 i hi j q)
theorem ndOk.inj {n pl : Nat} {nd : Nat → Nat} (h : ndOk n pl nd) {i j : Nat} (hi : i < pl) (hj : j < pl) (e : nd i = nd j) : i = j := Decidable.byContradiction fun q => h.ne hi hj q e
theorem patB : alB (fun sh => alB (fun k => !shB sh k || alB (fun i => alB (fun t => !((Nat.beq (lsN sh t) (lsN sh i) && Nat.beq (leN sh k t) (leN sh k i)) || (Nat.beq (lsN sh t) (leN sh k i) && Nat.beq (leN sh k t) (lsN sh i)))) i) k) 6) 4 = true := by decide +kernel
theorem pat {sh k : Nat} (hS : shOk sh k) {i : Nat} (hi : i < k) {t : Nat} (ht : t < i) : ¬ (lsN sh t = lsN sh i ∧ leN sh k t = leN sh k i) ∧ ¬ (lsN sh t = leN sh k i ∧ leN sh k t = lsN sh i) := by
  have h := (alB_iff _ _).mp ((alB_iff _ _).mp (sh_all (p := fun sh k => alB (fun i => alB (fun t => !((Nat.beq (lsN sh t) (lsN sh i) && Nat.beq (leN sh k t) (leN sh k i)) || (Nat.beq (lsN sh t) (leN sh k i) && Nat.beq (leN sh k t) (lsN sh i)))) i) k) patB hS) i hi) t ht
  constructor
  · rintro ⟨a, b⟩
    rw [a, b, Nat.beq_refl, Nat.beq_refl] at h
    cases h
  · rintro ⟨a, b⟩
    rw [a, b, Nat.beq_refl, Nat.beq_refl] at h
    have h : (!(_ || true)) = true := h
    rw [Bool.or_true] at h
    cases h
theorem lop_ln {n sh k : Nat} {nd : Nat → Nat} (hS : shOk sh k) (hn : n ≤ 11) (h : ndOk n (plN sh k) nd) {t : Nat} (ht : t < k) : lnN n (nd (lsN sh t)) (nd (leN sh k t)) < 55 ∧ nd (lsN sh t) < n ∧ nd (leN sh k t) < n ∧ nd (lsN sh t) ≠ nd (leN sh k t) := by
  obtain ⟨-, -, -, -, -, b6⟩ := shOk_b hS
  obtain ⟨q1, q2, q3⟩ := b6 t ht
  exact ⟨ln_55 hn (h.1 _ q1) (h.1 _ q2) (h.ne q1 q2 q3), h.1 _ q1, h.1 _ q2, h.ne q1 q2 q3⟩
theorem lop_bit {n sh k : Nat} {nd : Nat → Nat} (hS : shOk sh k) (hn : n ≤ 11) (h : ndOk n (plN sh k) nd) (j : Nat) : ∀ i, i ≤ k → (btL (lopN n sh k nd i) j = true ↔ ∃ t, t < i ∧ lnN n (nd (lsN sh t)) (nd (leN sh k t)) = j)
  | 0, _ => by
    show btL 0 j = true ↔ _
    rw [btL_0]
    exact ⟨(fun h => by cases h), fun ⟨t, ht, _⟩ => by omega⟩
  | i + 1, hi => by
    have ih := lop_bit hS hn h j i (by omega)
    have hl := (lop_ln hS hn h (show i < k by omega)).1
    show btL (lopN n sh k nd i ||| bL (lnN n (nd (lsN sh i)) (nd (leN sh k i)))) j = true ↔ _
    rw [btL_or, btL_bL (by omega), Bool.or_eq_true, ih, decide_eq_true_iff]
    constructor
    · rintro (⟨t, h1, h2⟩ | h2)
      · exact ⟨t, by omega, h2⟩
      · exact ⟨i, by omega, h2⟩
    · rintro ⟨t, h1, h2⟩
      by_cases q : t = i
      · subst q; exact Or.inr h2
      · exact Or.inl ⟨t, by omega, h2⟩
theorem lop_55 {n sh k : Nat} {nd : Nat → Nat} (hS : shOk sh k) (hn : n ≤ 11) (h : ndOk n (plN sh k) nd) : ok55 (lopN n sh k nd k) := fun j hj => by
  cases e : btL (lopN n sh k nd k) j with
  | false => rfl
  | true =>
    obtain ⟨t, h1, h2⟩ := (lop_bit hS hn h j k (Nat.le_refl _)).mp e
    have := (lop_ln hS hn h h1).1
    omega
theorem lop_pc {n sh k : Nat} {nd : Nat → Nat} (hS : shOk sh k) (hn : n ≤ 11) (h : ndOk n (plN sh k) nd) : ∀ i, i ≤ k → pcN (lopN n sh k nd i) = i
  | 0, _ => pc_0
  | i + 1, hi => by
    have ih := lop_pc hS hn h i (by omega)
    obtain ⟨b1, b2, b3, -, -, b6⟩ := shOk_b hS
    obtain ⟨l1, l2, l3, l4⟩ := lop_ln hS hn h (show i < k by omega)
    obtain ⟨q1, q2, q3⟩ := b6 i (by omega)
    show pcN (lopN n sh k nd i ||| bL (lnN n (nd (lsN sh i)) (nd (leN sh k i)))) = i + 1
    rw [pc_or, ih, pc_bL (by omega)]
    rw [dj_iff]
    intro j hj
    obtain ⟨t, t1, t2⟩ := (lop_bit hS hn h j i (by omega)).mp hj
    rw [btL_bL (by omega)]
    apply decide_eq_false
    intro e
    obtain ⟨p1, p2, p3⟩ := b6 t (by omega)
    obtain ⟨m1, m2, m3, m4⟩ := lop_ln hS hn h (show t < k by omega)
    have pp := pat hS (show i < k by omega) t1
    rcases ln_inj hn m2 m3 m4 l2 l3 l4 (t2.trans e.symm) with ⟨a, b⟩ | ⟨a, b⟩
    · exact pp.1 ⟨h.inj p1 q1 a, h.inj p2 q2 b⟩
    · exact pp.2 ⟨h.inj p1 q2 a, h.inj p2 q1 b⟩
theorem ptP.pc {n sh k : Nat} {x : Int64} (hS : shOk sh k) (hn : n ≤ 11) (h : ptP n sh k x) : pcN x = k := by
  obtain ⟨nd, h1, rfl⟩ := h
  exact lop_pc hS hn h1 k (Nat.le_refl _)
theorem ptP.ok {n sh k : Nat} {x : Int64} (hS : shOk sh k) (hn : n ≤ 11) (h : ptP n sh k x) : ok55 x := by
  obtain ⟨nd, h1, rfl⟩ := h
  exact lop_55 hS hn h1
theorem ptP.ne {n sh k : Nat} {x : Int64} (hS : shOk sh k) (hn : n ≤ 11) (h : ptP n sh k x) : ¬ x = 0 := fun e => by
  have := h.pc hS hn
  rw [e, pc_0] at this
  have := (shOk_b hS).2.1
  omega
theorem lop_congr {n sh k : Nat} {nd nd' : Nat → Nat} (hS : shOk sh k) (h : ∀ i, i < plN sh k → nd i = nd' i) : ∀ i, i ≤ k → lopN n sh k nd i = lopN n sh k nd' i
  | 0, _ => rfl
  | i + 1, hi => by
    obtain ⟨-, -, -, -, -, b6⟩ := shOk_b hS
    obtain ⟨q1, q2, q3⟩ := b6 i (by omega)
    show lopN n sh k nd i ||| bL (lnN n (nd (lsN sh i)) (nd (leN sh k i))) = lopN n sh k nd' i ||| bL (lnN n (nd' (lsN sh i)) (nd' (leN sh k i)))
    rw [lop_congr hS h i (by omega), h _ q1, h _ q2]
theorem lpN_pt {n sh k : Nat} {row : Nat → Int32} {f c : Nat} (hn : n ≤ 11) (hn1 : 1 ≤ n) (h : ¬ lpN n sh k row f c = 0) : ptP n sh k (lpN n sh k row f c) := by
  unfold lpN at h ⊢
  split at h
  case isFalse => exact absurd rfl h
  case isTrue q =>
    rw [if_pos q]
    rw [Bool.and_eq_true, decide_eq_true_iff] at q
    obtain ⟨q1, q2⟩ := q
    obtain ⟨t1, t2⟩ := telN_nd q2 (by omega)
    refine ⟨ndN row f, ⟨fun i hi => ?_, fun i hi j hj => t2 j i (by omega) (by omega) (by omega)⟩, rfl⟩
    have := (t1 i (by omega)).2
    omega
