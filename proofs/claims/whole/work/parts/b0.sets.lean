/-! ===== sets of lines: subsets, how many ===== -/
def sbL (x y : Int64) : Prop := ∀ k, btL x k = true → btL y k = true
theorem sb_iff {x y : Int64} : x &&& (y ^^^ (-1)) = 0 ↔ sbL x y := by
  constructor
  · intro h k hk
    by_cases h64 : k < 64
    · have := congrArg (fun z => btL z k) h
      rw [btL_and, btL_not y h64, btL_0, hk] at this
      cases e : btL y k with
      | true => rfl
      | false => rw [e] at this; cases this
    · rw [btL_big x (by omega)] at hk; cases hk
  · intro h
    refine btL_ext fun k hk => ?_
    rw [btL_and, btL_not y hk, btL_0]
    cases e : btL x k with
    | false => rfl
    | true => rw [h k e]; rfl
theorem sbL.rfl' (x : Int64) : sbL x x := fun _ h => h
theorem sbL.trans {x y z : Int64} (h : sbL x y) (h' : sbL y z) : sbL x z := fun k e => h' k (h k e)
theorem dj_iff {x y : Int64} : x &&& y = 0 ↔ ∀ k, btL x k = true → btL y k = false := by
  constructor
  · intro h k hk
    have := congrArg (fun z => btL z k) h
    rw [btL_and, btL_0, hk] at this
    simpa using this
  · intro h
    refine btL_ext fun k hk => ?_
    rw [btL_and, btL_0]
    cases e : btL x k with
    | false => rfl
    | true => rw [h k e]; rfl
theorem btL_lt {x : Int64} {k : Nat} (h : btL x k = true) : k < 64 := by
  rcases Nat.lt_or_ge k 64 with q | q
  · exact q
  · rw [btL_big x q] at h; cases h
theorem bit_ne {x : Int64} {k : Nat} (h : btL x k = true) : ¬ x = 0 := fun e => by rw [e, btL_0] at h; cases h
theorem btL_mi (x y : Int64) (k : Nat) : btL (x &&& (y ^^^ (-1))) k = (btL x k && !btL y k) := by
  by_cases h : k < 64
  · rw [btL_and, btL_not y h]
  · rw [btL_and, btL_big x (by omega)]; rfl
theorem pc_b (x : Int64) : pcN x = smB (fun k => (btL x k).toNat) 64 := by rw [pcN_eq]; exact smB_congr (fun i _ => btN_btL x i)
theorem smB_add (f g : Nat → Nat) : ∀ n, smB (fun i => f i + g i) n = smB f n + smB g n
  | 0 => rfl
  | n + 1 => by show smB (fun i => f i + g i) n + (f n + g n) = (smB f n + f n) + (smB g n + g n); rw [smB_add f g n]; omega
theorem smB_mono {f g : Nat → Nat} : ∀ n, (∀ i, i < n → f i ≤ g i) → smB f n ≤ smB g n
  | 0, _ => Nat.le_refl _
  | n + 1, h => by have := smB_mono n (fun i hi => h i (by omega)); have := h n (by omega); show smB f n + f n ≤ smB g n + g n; omega
theorem smB_lt {f g : Nat → Nat} : ∀ n, (∀ i, i < n → f i ≤ g i) → (∃ i, i < n ∧ f i < g i) → smB f n < smB g n
  | 0, _, h => by obtain ⟨i, hi, -⟩ := h; omega
  | n + 1, h, h2 => by
    obtain ⟨i, hi, hl⟩ := h2
    have hn := h n (by omega)
    show smB f n + f n < smB g n + g n
    by_cases q : i = n
    · subst q
      have := smB_mono (f := f) (g := g) i (fun i hi => h i (by omega))
      omega
    · have := smB_lt n (fun i hi => h i (by omega)) ⟨i, by omega, hl⟩
      omega
theorem smB_z {f : Nat → Nat} : ∀ n, (∀ i, i < n → f i = 0) → smB f n = 0
  | 0, _ => rfl
  | n + 1, h => by show smB f n + f n = 0; rw [smB_z n (fun i hi => h i (by omega)), h n (by omega)]
theorem smB_one (j : Nat) : ∀ n, smB (fun i => (decide (j = i)).toNat) n = if j < n then 1 else 0
  | 0 => by simp [smB]
  | n + 1 => by
    show smB (fun i => (decide (j = i)).toNat) n + (decide (j = n)).toNat = _
    rw [smB_one j n]
    by_cases h1 : j = n
    · subst h1; simp
    · by_cases h2 : j < n
      · rw [if_pos h2, if_pos (by omega), decide_eq_false h1]; rfl
      · rw [if_neg h2, if_neg (by omega), decide_eq_false h1]; rfl
theorem pc_0 : pcN 0 = 0 := by rw [pc_b]; exact smB_z 64 (fun i _ => by rw [btL_0]; rfl)
theorem pc_bL {j : Nat} (hj : j < 64) : pcN (bL j) = 1 := by
  rw [pc_b, smB_congr (g := fun i => (decide (j = i)).toNat) (fun i _ => by rw [btL_bL hj]), smB_one, if_pos hj]
theorem pc_or {x y : Int64} (h : x &&& y = 0) : pcN (x ||| y) = pcN x + pcN y := by
  rw [pc_b, pc_b, pc_b, ← smB_add]
  refine smB_congr (fun i _ => ?_)
  rw [btL_or]
  cases e : btL x i with
  | false => cases btL y i <;> rfl
  | true => rw [dj_iff.mp h i e]; rfl
theorem pc_sb {x v : Int64} (h : sbL v x) : pcN (x &&& (v ^^^ (-1))) + pcN v = pcN x := by
  rw [← pc_or]
  · congr 1
    refine btL_ext fun k hk => ?_
    rw [btL_or, btL_mi]
    cases e : btL v k with
    | false => cases btL x k <;> rfl
    | true => rw [h k e]; rfl
  · rw [dj_iff]
    intro k hk
    rw [btL_mi] at hk
    cases e : btL v k with
    | false => rfl
    | true => rw [e, Bool.not_true, Bool.and_false] at hk; cases hk
theorem pc_pos {x : Int64} (h : ¬ x = 0) : 1 ≤ pcN x := by
  obtain ⟨k, hk, e⟩ := btL_ne h
  have : sbL (bL k) x := fun j hj => by rw [btL_bL hk] at hj; have := of_decide_eq_true hj; subst this; exact e
  have := pc_sb this
  rw [pc_bL hk] at this
  omega
theorem pc_z {x : Int64} (h : pcN x = 0) : x = 0 := Decidable.byContradiction fun q => by have := pc_pos q; omega
theorem pc_le {x y : Int64} (h : sbL x y) : pcN x ≤ pcN y := by have := pc_sb h; omega
theorem pc_55 {x : Int64} (h : ok55 x) : pcN x ≤ 55 := by
  rw [pc_b]
  have e : smB (fun k => (btL x k).toNat) 64 = smB (fun k => (btL x k).toNat) 55 := smB_top (a := 55) (fun i hi => by rw [h i hi]; rfl) 9
  rw [e]
  exact smB_le (fun i => by cases btL x i <;> decide) 55
theorem ok55.sb {x y : Int64} (h : ok55 y) (s : sbL x y) : ok55 x := fun k hk => by
  cases e : btL x k with
  | false => rfl
  | true => have := s k e; rw [h k hk] at this; cases this
theorem ok55.ll {x : Int64} (h : ok55 x) (h0 : ¬ x = 0) : llN x < 55 := by
  obtain ⟨h1, h2⟩ := llN_lt h0
  have := ((isLo_iff h1).mp h2).1
  rcases Nat.lt_or_ge (llN x) 55 with q | q
  · exact q
  · rw [h _ q] at this; cases this
theorem ll_bit {x : Int64} (h0 : ¬ x = 0) : btL x (llN x) = true ∧ ∀ j, j < llN x → btL x j = false := by
  obtain ⟨h1, h2⟩ := llN_lt h0
  exact (isLo_iff h1).mp h2
theorem ll_of {x : Int64} {k : Nat} (h : btL x k = true) (h2 : ∀ j, j < k → btL x j = false) : llN x = k := llN_lo ((isLo_iff (btL_lt h)).mpr ⟨h, h2⟩)
/-- the least line goes -/
theorem clr1 {x : Int64} (h0 : ¬ x = 0) : x &&& (x - 1) = x &&& (bL (llN x) ^^^ (-1)) := by
  obtain ⟨hk, -⟩ := llN_lt h0
  obtain ⟨h1, h2⟩ := ll_bit h0
  generalize hkk : llN x = k at hk h1 h2
  have hx := uN_lt x
  have hm : uN x % 2 ^ (k + 1) = 2 ^ k := by
    apply Nat.eq_of_testBit_eq
    intro i
    rw [Nat.testBit_mod_two_pow, Nat.testBit_two_pow]
    rcases Nat.lt_trichotomy i k with h | h | h
    · rw [show (uN x).testBit i = false from h2 i h]; simp; omega
    · subst h; rw [show (uN x).testBit i = true from h1]; simp
    · rw [decide_eq_false (by omega), decide_eq_false (by omega)]; rfl
  obtain ⟨m, he⟩ : ∃ m, uN x = 2 ^ (k + 1) * m + 2 ^ k := ⟨uN x / 2 ^ (k + 1), by have := Nat.div_add_mod (uN x) (2 ^ (k + 1)); omega⟩
  have hp : 0 < 2 ^ k := Nat.two_pow_pos k
  have hlt : 2 ^ k - 1 < 2 ^ (k + 1) := by rw [Nat.pow_succ]; omega
  have hlt2 : 2 ^ k < 2 ^ (k + 1) := by rw [Nat.pow_succ]; omega
  have u1 : uN 1 = 1 := by decide +kernel
  have e1 : uN (x - 1) = 2 ^ (k + 1) * m + (2 ^ k - 1) := by rw [uN_sub (by rw [u1]; omega), u1]; omega
  refine btL_ext fun i hi => ?_
  rw [btL_mi, btL_bL hk, btL_and]
  have f1 : btL (x - 1) i = if i < k + 1 then decide (i < k) else m.testBit (i - (k + 1)) := by
    unfold btL
    rw [e1, Nat.testBit_two_pow_mul_add _ hlt, Nat.testBit_two_pow_sub_one]
  have f2 : btL x i = if i < k + 1 then decide (k = i) else m.testBit (i - (k + 1)) := by
    unfold btL
    rw [he, Nat.testBit_two_pow_mul_add _ hlt2, Nat.testBit_two_pow]
  rw [f1, f2]
  rcases Nat.lt_trichotomy i k with h | h | h
  · rw [if_pos (by omega), if_pos (by omega), decide_eq_false (by omega)]; rfl
  · subst h; simp
  · rw [if_neg (by omega), if_neg (by omega), decide_eq_false (by omega)]; cases m.testBit (i - (k + 1)) <;> rfl
theorem pc_clr {x : Int64} (h0 : ¬ x = 0) : pcN (x &&& (x - 1)) + 1 = pcN x := by
  rw [clr1 h0]
  have hk := (llN_lt h0).1
  have : sbL (bL (llN x)) x := fun j hj => by rw [btL_bL hk] at hj; have := of_decide_eq_true hj; rw [← this]; exact (ll_bit h0).1
  have := pc_sb this
  rw [pc_bL hk] at this
  exact this
theorem pc_clrN (x : Int64) : ∀ i, pcN (clrN x i) = pcN x - i
  | 0 => rfl
  | i + 1 => by
    have ih := pc_clrN x i
    show pcN (clrN x i &&& (clrN x i - 1)) = _
    by_cases h : clrN x i = 0
    · rw [h] at ih ⊢
      rw [pc_0] at ih
      rw [Int64.zero_and, pc_0]
      omega
    · have := pc_clr h
      omega
theorem clr_iff (x : Int64) (i : Nat) : clrN x i = 0 ↔ pcN x ≤ i := by
  constructor
  · intro h
    have := pc_clrN x i
    rw [h, pc_0] at this
    omega
  · intro h
    apply pc_z
    rw [pc_clrN]
    omega
/-! ===== lines have numbers of their own ===== -/
def dcN : Nat → Nat → Nat → Nat → Nat × Nat
  | 0, _, a, l => (a, l)
  | z + 1, n, a, l => if l < n - 1 - a then (a, a + 1 + l) else dcN z n (a + 1) (l - (n - 1 - a))
theorem dc_ln : ∀ n, n ≤ 11 → ∀ b, b < n → ∀ a, a < b → dcN 11 n 0 (lnN n a b) = (a, b) := by decide +kernel
theorem ln_inj {n a b c e : Nat} (hn : n ≤ 11) (ha : a < n) (hb : b < n) (hab : a ≠ b) (hc : c < n) (he : e < n) (hce : c ≠ e) (h : lnN n a b = lnN n c e) : (a = c ∧ b = e) ∨ (a = e ∧ b = c) := by
  rcases Nat.lt_or_gt_of_ne hab with q | q <;> rcases Nat.lt_or_gt_of_ne hce with r | r
  · have := (dc_ln n hn b hb a q).symm.trans ((congrArg _ h).trans (dc_ln n hn e he c r))
    injection this with h1 h2
    exact Or.inl ⟨h1, h2⟩
  · have := (dc_ln n hn b hb a q).symm.trans ((congrArg _ (h.trans (lnN_sym n c e))).trans (dc_ln n hn c hc e r))
    injection this with h1 h2
    exact Or.inr ⟨h1, h2⟩
  · have := (dc_ln n hn a ha b q).symm.trans ((congrArg _ ((lnN_sym n b a).trans h)).trans (dc_ln n hn e he c r))
    injection this with h1 h2
    exact Or.inr ⟨h2, h1⟩
  · have := (dc_ln n hn a ha b q).symm.trans ((congrArg _ ((lnN_sym n b a).trans (h.trans (lnN_sym n c e)))).trans (dc_ln n hn c hc e r))
    injection this with h1 h2
    exact Or.inl ⟨h2, h1⟩
/-! lines at a node, counted -/
theorem la_pc (x : Int64) {n a : Nat} (hn : n ≤ 11) (ha : a < n) : ∀ b, b ≤ n → pcN (x &&& lasN n a b) = laM x n a b
  | 0, _ => by show pcN (x &&& 0) = 0; rw [Int64.and_zero, pc_0]
  | b + 1, hb => by
    have ih := la_pc x hn ha b (by omega)
    show pcN (x &&& (if b = a then lasN n a b else lasN n a b ||| bL (lnN n a b))) = if b = a then laM x n a b else laM x n a b + (btL x (lnN n a b)).toNat
    by_cases q : b = a
    · rw [if_pos q, if_pos q]; exact ih
    · rw [if_neg q, if_neg q]
      have hl := ln_55 hn ha (show b < n by omega) (Ne.symm q)
      have e : x &&& (lasN n a b ||| bL (lnN n a b)) = (x &&& lasN n a b) ||| (x &&& bL (lnN n a b)) := by
        refine btL_ext fun k hk => ?_
        rw [btL_and, btL_or, btL_or, btL_and, btL_and]
        cases btL x k <;> rfl
      rw [e, pc_or, ih]
      · congr 1
        cases hx : btL x (lnN n a b) with
        | false =>
          rw [show x &&& bL (lnN n a b) = 0 from dj_iff.mpr (fun k hk => by
            rw [btL_bL (by omega)]
            apply decide_eq_false
            intro z
            rw [← z, hx] at hk; cases hk), pc_0]
          rfl
        | true =>
          rw [show x &&& bL (lnN n a b) = bL (lnN n a b) from btL_ext (fun k hk => by
            rw [btL_and, btL_bL (by omega)]
            by_cases z : lnN n a b = k
            · rw [← z, hx]; simp
            · rw [decide_eq_false z, Bool.and_false]), pc_bL (by omega)]
          rfl
      · rw [dj_iff]
        intro k hk
        rw [btL_and, lasN_bit n a hn ha k b (by omega)] at hk
        rw [btL_and, btL_bL (by omega)]
        have hk2 : decide (∃ j, j < b ∧ j ≠ a ∧ lnN n a j = k) = true := by
          cases h9 : btL x k <;> rw [h9] at hk
          · cases hk
          · simpa using hk
        obtain ⟨j, j1, j2, j3⟩ := of_decide_eq_true hk2
        have : ¬ lnN n a b = k := fun z => by
          have := ln_inj hn ha (show j < n by omega) (Ne.symm j2) ha (show b < n by omega) (Ne.symm q) (j3.trans z.symm)
          omega
        rw [decide_eq_false this, Bool.and_false]
theorem od_iff (x : Int64) {n : Nat} (hn : n ≤ 11) : ∀ m a, a + m = n → (odN n x a m = true ↔ ∃ i, a ≤ i ∧ i < n ∧ laM x n i n % 2 = 1)
  | 0, a, h => by
    constructor
    · intro h; cases h
    · rintro ⟨i, h1, h2, -⟩; omega
  | m + 1, a, h => by
    have ih := od_iff x hn m (a + 1) (by omega)
    show ((if pcN (x &&& lasN n a n) % 2 = 0 then odN n x (a + 1) m else true) = true) ↔ _
    rw [la_pc x hn (by omega) n (Nat.le_refl _)]
    by_cases q : laM x n a n % 2 = 0
    · rw [if_pos q, ih]
      constructor
      · rintro ⟨i, h1, h2, h3⟩; exact ⟨i, by omega, h2, h3⟩
      · rintro ⟨i, h1, h2, h3⟩
        refine ⟨i, ?_, h2, h3⟩
        by_cases z : i = a
        · subst z; omega
        · omega
    · rw [if_neg q]
      exact ⟨fun _ => ⟨a, Nat.le_refl _, by omega, by omega⟩, fun _ => rfl⟩
theorem odM_iff (x : Int64) (n : Nat) : ∀ m, (odM x n m = true ↔ ∃ i, i < m ∧ laM x n i n % 2 = 1)
  | 0 => ⟨fun h => (by cases h), fun ⟨i, h, _⟩ => by omega⟩
  | m + 1 => by
    have ih := odM_iff x n m
    show ((odM x n m || decide (laM x n m n % 2 = 1)) = true) ↔ _
    rw [Bool.or_eq_true, ih, decide_eq_true_iff]
    constructor
    · rintro (⟨i, h1, h2⟩ | h)
      · exact ⟨i, by omega, h2⟩
      · exact ⟨m, by omega, h⟩
    · rintro ⟨i, h1, h2⟩
      by_cases z : i = m
      · subst z; exact Or.inr h2
      · exact Or.inl ⟨i, by omega, h2⟩
theorem od_eq (x : Int64) {n : Nat} (hn : n ≤ 11) : odN n x 0 n = odM x n n := by
  have h1 := od_iff x hn n 0 (by omega)
  have h2 := odM_iff x n n
  cases e1 : odN n x 0 n <;> cases e2 : odM x n n
  · rfl
  · obtain ⟨i, a, b⟩ := h2.mp e2
    have := h1.mpr ⟨i, by omega, a, b⟩
    rw [e1] at this; cases this
  · obtain ⟨i, -, a, b⟩ := h1.mp e1
    have := h2.mpr ⟨i, a, b⟩
    rw [e2] at this; cases this
  · rfl
/-! the nodes of a part, as bits -/
theorem bI_n : ∀ a, a < 11 → bI a = nI (2 ^ a) := by decide +kernel
theorem pnF_nd {n : Nat} (hn : n ≤ 11) (ps : Nat → Int64) (i : Nat) : ∀ a, a ≤ n → ∃ v, pnF n ps a i = nI v ∧ ∀ t, v.testBit t = (decide (t < a) && (ndO (ps i) n n).testBit t)
  | 0, _ => ⟨0, rfl, fun t => by rw [Nat.zero_testBit]; rfl⟩
  | a + 1, h => by
    obtain ⟨v, e, hv⟩ := pnF_nd hn ps i a (by omega)
    have em := meets_iff (ps i) hn (show a < n by omega)
    have u : pnF n ps (a + 1) i = if ps i &&& lasN n a n = 0 then pnF n ps a i else pnF n ps a i ||| bI a := rfl
    by_cases q : ps i &&& lasN n a n = 0
    · rw [u, if_pos q]
      refine ⟨v, e, fun t => ?_⟩
      rw [hv t]
      by_cases ht : t = a
      · subst ht; rw [em.mp q, Bool.and_false, Bool.and_false]
      · rw [show decide (t < a + 1) = decide (t < a) from decide_eq_decide.mpr (by omega)]
    · rw [u, if_neg q, e, bI_n a (by omega), nI_or]
      refine ⟨v ||| 2 ^ a, rfl, fun t => ?_⟩
      rw [Nat.testBit_or, hv t, Nat.testBit_two_pow]
      by_cases ht : t = a
      · subst ht
        have : (ndO (ps i) n n).testBit t = true := by
          cases z : (ndO (ps i) n n).testBit t with
          | true => rfl
          | false => exact absurd (em.mpr z) q
        rw [this]; simp
      · rw [show decide (t < a + 1) = decide (t < a) from decide_eq_decide.mpr (by omega), decide_eq_false (Ne.symm ht), Bool.or_false]
theorem pnF_eq {n : Nat} (hn : n ≤ 11) (ps : Nat → Int64) (i : Nat) : pnF n ps n i = nI (ndO (ps i) n n) := by
  obtain ⟨v, e, hv⟩ := pnF_nd hn ps i n (Nat.le_refl _)
  rw [e]
  congr 1
  apply Nat.eq_of_testBit_eq
  intro t
  rw [hv t]
  by_cases h : t < n
  · rw [decide_eq_true h]; rfl
  · rw [decide_eq_false h, Bool.false_and, ndO_bit]
    symm
    apply decide_eq_false
    rintro ⟨a, ha, j, hj, -, z⟩
    omega
