/-! ===== both sides go through the same rows of nodes ===== -/
def fsQ (sh : Nat) (c : Nat → Nat) (m : Nat) : Bool := if sh = 2 then decide (2 < m ∨ c 0 < c 1) else if sh = 1 then decide (c 0 < c (m - 1)) else decide ((∀ i, i < m → ¬ c i < c 0) ∧ c 1 < c (m - 1))
def skL (n sh k : Nat) : Nat → Nat → (Nat → Nat) → List Int64
  | 0, m, c => if fsQ sh c m = true then [lopN n sh k c k] else []
  | r + 1, m, c => fmV (fun v => if (∃ i, i < m ∧ c i = v) ∨ (sh = 2 ∧ 1 < m ∧ v < c (m - 1)) then [] else skL n sh k r (m + 1) (updN c m v)) n
def fmW (F : Nat → List Int64) : Nat → Nat → List Int64
  | 0, _ => []
  | z + 1, v => F v ++ fmW F z (v + 1)
theorem fmW_V (F : Nat → List Int64) : ∀ z v, fmV F v ++ fmW F z v = fmV F (v + z)
  | 0, v => List.append_nil _
  | z + 1, v => by
    have ih := fmW_V F z (v + 1)
    show fmV F v ++ (F v ++ fmW F z (v + 1)) = fmV F (v + (z + 1))
    rw [← List.append_assoc, show v + (z + 1) = v + 1 + z by omega, ← ih]
    rfl
theorem updN_s (c : Nat → Nat) (m v : Nat) : updN c m v m = v := if_pos rfl
theorem updN_n (c : Nat → Nat) {m v i : Nat} (h : i ≠ m) : updN c m v i = c i := if_neg h
theorem fsB_Q {sh m : Nat} {E : Nat → Int32} {c : Nat → Nat} (hm : 2 ≤ m) (h : ∀ i, i < m → E i = nI (c i) ∧ c i < 11) : fsB sh E m = fsQ sh c m := by
  have lt : ∀ i j, i < m → j < m → (E i < E j ↔ c i < c j) := fun i j hi hj => by
    rw [(h i hi).1, (h j hj).1]
    have := (h i hi).2
    have := (h j hj).2
    exact nI_ltI (by omega) (by omega)
  unfold fsB fsQ
  by_cases q : sh = 2
  · rw [if_pos q, if_pos q]
    exact decide_eq_decide.mpr (or_congr Iff.rfl (lt 0 1 (by omega) (by omega)))
  · rw [if_neg q, if_neg q]
    by_cases q1 : sh = 1
    · rw [if_pos q1, if_pos q1]
      exact decide_eq_decide.mpr (lt 0 (m - 1) (by omega) (by omega))
    · rw [if_neg q1, if_neg q1]
      refine decide_eq_decide.mpr (and_congr ⟨fun g i hi => (not_congr (lt i 0 hi (by omega))).mp (g i hi), fun g i hi => (not_congr (lt i 0 hi (by omega))).mpr (g i hi)⟩ (lt 1 (m - 1) (by omega) (by omega)))
theorem lpN_lop {n sh k : Nat} {E : Nat → Int32} {c : Nat → Nat} (hS : shOk sh k) (hn : n ≤ 11) (hn1 : 1 ≤ n) (h : ∀ i, i < plN sh k → E i = nI (c i) ∧ c i < n) (hd : ∀ i, i < plN sh k → ∀ j, j < i → c j ≠ c i) : lpN n sh k E 0 (plN sh k) = lopN n sh k c k := by
  have hc : ∀ i, i < plN sh k → ndN E 0 i = c i := fun i hi => by
    unfold ndN
    rw [Nat.zero_add, (h i hi).1]
    have := (h i hi).2
    exact nI_clamp (by omega)
  have ht : telN E 0 (plN sh k) (n - 1) = true := by
    refine decide_eq_true (fun i hi => ⟨?_, fun j hj => ?_⟩)
    · rw [Nat.zero_add, (h i hi).1]
      exact hasN_in (by have := (h i hi).2; omega) (by omega)
    · rw [Nat.zero_add, Nat.zero_add, (h i hi).1, (h j (by omega)).1]
      intro e
      have a1 := (h i hi).2
      have a2 := (h j (by omega)).2
      exact hd i hi j hj ((nI_eq (by omega) (by omega)).mp e)
  unfold lpN
  rw [ht, decide_eq_true rfl]
  exact lop_congr hS hc k (Nat.le_refl _)
theorem skG_L {n sh k : Nat} (hS : shOk sh k) (hn : n ≤ 11) (hn1 : 1 ≤ n) : ∀ (r m u : Nat) (E : Nat → Int32) (c : Nat → Nat), m + r = plN sh k → (∀ i, i < m → E i = nI (c i) ∧ c i < n) → (∀ i, i < m → ∀ j, j < i → c j ≠ c i) → (∀ v, u.testBit v = decide (∃ i, i < m ∧ c i = v)) → (skG n sh k r m u E).1 = skL n sh k r m c ∧ ∀ i, i < m → (skG n sh k r m u E).2 i = E i := by
  have b5 := (shOk_b hS).2.2.2.2.1
  intro r
  induction r with
  | zero =>
    intro m u E c hm h hd hu
    have hm : m = plN sh k := by omega
    subst hm
    have e : skG n sh k 0 (plN sh k) u E = (if fsB sh E (plN sh k) = true then [lpN n sh k E 0 (plN sh k)] else [], E) := rfl
    rw [e]
    refine ⟨?_, fun _ _ => rfl⟩
    show (if fsB sh E (plN sh k) = true then [lpN n sh k E 0 (plN sh k)] else []) = if fsQ sh c (plN sh k) = true then [lopN n sh k c k] else []
    rw [fsB_Q b5 (fun i hi => ⟨(h i hi).1, by have := (h i hi).2; omega⟩), lpN_lop hS hn hn1 h hd]
  | succ r ih =>
    intro m u E c hm h hd hu
    have key : ∀ (z v : Nat) (E : Nat → Int32), v + z = n → (∀ i, i < m → E i = nI (c i) ∧ c i < n) → (skV (fun u' E' => skG n sh k r (m + 1) u' E') sh m u z v E).1 = fmW (fun v => if (∃ i, i < m ∧ c i = v) ∨ (sh = 2 ∧ 1 < m ∧ v < c (m - 1)) then [] else skL n sh k r (m + 1) (updN c m v)) z v ∧ ∀ i, i < m → (skV (fun u' E' => skG n sh k r (m + 1) u' E') sh m u z v E).2 i = E i := by
      intro z
      induction z with
      | zero => exact fun v E _ _ => ⟨rfl, fun _ _ => rfl⟩
      | succ z ihz =>
        intro v E hv hE
        have es : skS9 sh m E u v = decide ((∃ i, i < m ∧ c i = v) ∨ (sh = 2 ∧ 1 < m ∧ v < c (m - 1))) := by
          unfold skS9
          rw [hu v]
          by_cases q1 : ∃ i, i < m ∧ c i = v
          · rw [decide_eq_true q1, decide_eq_true (Or.inl q1)]; rfl
          · rw [decide_eq_false q1, Bool.false_or]
            by_cases q2 : sh = 2
            · by_cases q3 : 1 < m
              · rw [decide_eq_true q2, decide_eq_true q3, Bool.true_and, Bool.true_and]
                have hl := hE (m - 1) (by omega)
                refine decide_eq_decide.mpr ?_
                rw [hl.1, nI_ltI (by omega) (by omega)]
                exact ⟨fun z => Or.inr ⟨q2, q3, z⟩, fun z => by rcases z with z | z; exact absurd z q1; exact z.2.2⟩
              · rw [decide_eq_false q3, Bool.false_and, Bool.and_false]
                exact (decide_eq_false (fun z => by rcases z with z | z; exact q1 z; exact q3 z.2.1)).symm
            · rw [decide_eq_false q2, Bool.false_and]
              exact (decide_eq_false (fun z => by rcases z with z | z; exact q1 z; exact q2 z.1)).symm
        have e : skV (fun u' E' => skG n sh k r (m + 1) u' E') sh m u (z + 1) v E = if skS9 sh m E u v = true then skV (fun u' E' => skG n sh k r (m + 1) u' E') sh m u z (v + 1) E else ((skG n sh k r (m + 1) (u ||| 2 ^ v) (upd E m (nI v))).1 ++ (skV (fun u' E' => skG n sh k r (m + 1) u' E') sh m u z (v + 1) (skG n sh k r (m + 1) (u ||| 2 ^ v) (upd E m (nI v))).2).1, (skV (fun u' E' => skG n sh k r (m + 1) u' E') sh m u z (v + 1) (skG n sh k r (m + 1) (u ||| 2 ^ v) (upd E m (nI v))).2).2) := rfl
        rw [e, es]
        show _ = (if (∃ i, i < m ∧ c i = v) ∨ (sh = 2 ∧ 1 < m ∧ v < c (m - 1)) then [] else skL n sh k r (m + 1) (updN c m v)) ++ fmW _ z (v + 1) ∧ _
        by_cases q : (∃ i, i < m ∧ c i = v) ∨ (sh = 2 ∧ 1 < m ∧ v < c (m - 1))
        · rw [decide_eq_true q, if_pos rfl, if_pos q, List.nil_append]
          exact ihz (v + 1) E (by omega) hE
        · rw [decide_eq_false q, if_neg (by intro z; cases z), if_neg q]
          have hE2 : ∀ i, i < m + 1 → upd E m (nI v) i = nI (updN c m v i) ∧ updN c m v i < n := fun i hi => by
            by_cases z : i = m
            · subst z; rw [pk_us, updN_s]; exact ⟨rfl, by omega⟩
            · rw [pk_un z, updN_n c z]; exact hE i (by omega)
          obtain ⟨i1, i2⟩ := ih (m + 1) (u ||| 2 ^ v) (upd E m (nI v)) (updN c m v) (by omega) hE2 (fun i hi j hj => by
            rw [updN_n c (show j ≠ m by omega)]
            by_cases z : i = m
            · subst z; rw [updN_s]; exact fun e => q (Or.inl ⟨j, hj, e⟩)
            · rw [updN_n c z]; exact hd i (by omega) j hj) (fun w => by
            rw [Nat.testBit_or, hu w, Nat.testBit_two_pow]
            by_cases z : v = w
            · subst z
              rw [decide_eq_true rfl, Bool.or_true, decide_eq_true ⟨m, by omega, updN_s c m v⟩]
            · rw [decide_eq_false z, Bool.or_false]
              refine decide_eq_decide.mpr ⟨fun ⟨i, hi, e⟩ => ⟨i, by omega, by rw [updN_n c (by omega)]; exact e⟩, fun ⟨i, hi, e⟩ => ?_⟩
              by_cases y : i = m
              · subst y; rw [updN_s] at e; exact absurd e z
              · rw [updN_n c y] at e; exact ⟨i, by omega, e⟩)
          have hE3 : ∀ i, i < m → (skG n sh k r (m + 1) (u ||| 2 ^ v) (upd E m (nI v))).2 i = E i := fun i hi => by rw [i2 i (by omega), pk_un (by omega)]
          obtain ⟨j1, j2⟩ := ihz (v + 1) (skG n sh k r (m + 1) (u ||| 2 ^ v) (upd E m (nI v))).2 (by omega) (fun i hi => by rw [hE3 i hi]; exact hE i hi)
          refine ⟨?_, fun i hi => (j2 i hi).trans (hE3 i hi)⟩
          show _ ++ _ = _ ++ _
          rw [i1, j1]
    obtain ⟨k1, k2⟩ := key n 0 E (by omega) h
    refine ⟨?_, k2⟩
    have : fmV (fun v => if (∃ i, i < m ∧ c i = v) ∨ (sh = 2 ∧ 1 < m ∧ v < c (m - 1)) then [] else skL n sh k r (m + 1) (updN c m v)) 0 ++ fmW (fun v => if (∃ i, i < m ∧ c i = v) ∨ (sh = 2 ∧ 1 < m ∧ v < c (m - 1)) then [] else skL n sh k r (m + 1) (updN c m v)) n 0 = fmV (fun v => if (∃ i, i < m ∧ c i = v) ∨ (sh = 2 ∧ 1 < m ∧ v < c (m - 1)) then [] else skL n sh k r (m + 1) (updN c m v)) (0 + n) := fmW_V _ n 0
    rw [Nat.zero_add] at this
    exact k1.trans this
/-- all parts of a shape on all lines, in the order found -/
def apL (n sh k : Nat) : List Int64 := skL n sh k (plN sh k) 0 (fun _ => 0)
theorem skL_congr {n sh k : Nat} (hS : shOk sh k) : ∀ (r m : Nat) (c c' : Nat → Nat), m + r = plN sh k → (∀ i, i < m → c i = c' i) → skL n sh k r m c = skL n sh k r m c' := by
  have b5 := (shOk_b hS).2.2.2.2.1
  intro r
  induction r with
  | zero =>
    intro m c c' hm h
    show (if fsQ sh c m = true then [lopN n sh k c k] else []) = if fsQ sh c' m = true then [lopN n sh k c' k] else []
    rw [lop_congr hS (fun i hi => h i (by omega)) k (Nat.le_refl _)]
    have : fsQ sh c m = fsQ sh c' m := by
      unfold fsQ
      rw [h 0 (by omega), h 1 (by omega), h (m - 1) (by omega)]
      have e : (∀ i, i < m → ¬ c i < c' 0) ↔ ∀ i, i < m → ¬ c' i < c' 0 := ⟨fun g i hi => by rw [← h i hi]; exact g i hi, fun g i hi => by rw [h i hi]; exact g i hi⟩
      simp only [e]
    rw [this]
  | succ r ih =>
    intro m c c' hm h
    refine fmV_congr (fun v _ => ?_)
    have e1 : (∃ i, i < m ∧ c i = v) ↔ ∃ i, i < m ∧ c' i = v := ⟨fun ⟨i, a, b⟩ => ⟨i, a, by rw [← h i a]; exact b⟩, fun ⟨i, a, b⟩ => ⟨i, a, by rw [h i a]; exact b⟩⟩
    have e2 : (sh = 2 ∧ 1 < m ∧ v < c (m - 1)) ↔ (sh = 2 ∧ 1 < m ∧ v < c' (m - 1)) := by
      constructor
      · rintro ⟨a, b, d⟩; rw [h (m - 1) (by omega)] at d; exact ⟨a, b, d⟩
      · rintro ⟨a, b, d⟩; rw [← h (m - 1) (by omega)] at d; exact ⟨a, b, d⟩
    by_cases q : (∃ i, i < m ∧ c i = v) ∨ (sh = 2 ∧ 1 < m ∧ v < c (m - 1))
    · rw [if_pos q, if_pos ((or_congr e1 e2).mp q)]
    · rw [if_neg q, if_neg (fun z => q ((or_congr e1 e2).mpr z))]
      refine ih (m + 1) _ _ (by omega) (fun i hi => ?_)
      by_cases z : i = m
      · subst z; rw [updN_s, updN_s]
      · rw [updN_n c z, updN_n c' z]; exact h i (by omega)
theorem sk_ap {n sh k : Nat} (hS : shOk sh k) (hn : n ≤ 11) (hn1 : 1 ≤ n) (E : Nat → Int32) : (skG n sh k (plN sh k) 0 0 E).1 = apL n sh k :=
  (skG_L hS hn hn1 (plN sh k) 0 0 E (fun _ => 0) (by omega) (fun i hi => by omega) (fun i hi => by omega) (fun v => by rw [Nat.zero_testBit]; exact (decide_eq_false (fun ⟨i, hi, _⟩ => by omega)).symm)).1
theorem mem_fmV {F : Nat → List Int64} {y : Int64} : ∀ {n : Nat}, y ∈ fmV F n ↔ ∃ v, v < n ∧ y ∈ F v
  | 0 => ⟨fun h => (by cases h), fun ⟨v, h, _⟩ => by omega⟩
  | n + 1 => by
    show y ∈ fmV F n ++ F n ↔ _
    rw [List.mem_append, mem_fmV]
    constructor
    · rintro (⟨v, a, b⟩ | b)
      · exact ⟨v, by omega, b⟩
      · exact ⟨n, by omega, b⟩
    · rintro ⟨v, a, b⟩
      by_cases z : v = n
      · subst z; exact Or.inr b
      · exact Or.inl ⟨v, by omega, b⟩
def stC (sh pl m : Nat) (nd : Nat → Nat) : Prop := sh = 2 → ∀ i, 2 ≤ i → m ≤ i → i < pl → nd (i - 1) < nd i
theorem skL_mem {n sh k : Nat} (hS : shOk sh k) : ∀ (r m : Nat) (c : Nat → Nat) (y : Int64), m + r = plN sh k → (∀ i, i < m → c i < n) → (∀ i, i < m → ∀ j, j < i → c j ≠ c i) → (y ∈ skL n sh k r m c ↔ ∃ nd, ndOk n (plN sh k) nd ∧ (∀ i, i < m → nd i = c i) ∧ fsQ sh nd (plN sh k) = true ∧ stC sh (plN sh k) m nd ∧ y = lopN n sh k nd k) := by
  have b5 := (shOk_b hS).2.2.2.2.1
  have fq : ∀ (c c' : Nat → Nat), (∀ i, i < plN sh k → c i = c' i) → fsQ sh c (plN sh k) = fsQ sh c' (plN sh k) := fun c c' h => by
    unfold fsQ
    rw [h 0 (by omega), h 1 (by omega), h (plN sh k - 1) (by omega)]
    have e : (∀ i, i < plN sh k → ¬ c i < c' 0) ↔ ∀ i, i < plN sh k → ¬ c' i < c' 0 := ⟨fun g i hi => by rw [← h i hi]; exact g i hi, fun g i hi => by rw [h i hi]; exact g i hi⟩
    simp only [e]
  intro r
  induction r with
  | zero =>
    intro m c y hm h hd
    have hm : m = plN sh k := by omega
    subst hm
    show y ∈ (if fsQ sh c (plN sh k) = true then [lopN n sh k c k] else []) ↔ _
    constructor
    · intro hy
      by_cases q : fsQ sh c (plN sh k) = true
      · rw [if_pos q, List.mem_singleton] at hy
        exact ⟨c, ⟨h, hd⟩, fun _ _ => rfl, q, fun _ i _ h2 h3 => by omega, hy⟩
      · rw [if_neg q] at hy; cases hy
    · rintro ⟨nd, h1, h2, h3, h4, h5⟩
      rw [if_pos ((fq nd c h2).symm.trans h3), List.mem_singleton, h5]
      exact lop_congr hS h2 k (Nat.le_refl _)
  | succ r ih =>
    intro m c y hm h hd
    show y ∈ fmV (fun v => if (∃ i, i < m ∧ c i = v) ∨ (sh = 2 ∧ 1 < m ∧ v < c (m - 1)) then [] else skL n sh k r (m + 1) (updN c m v)) n ↔ _
    rw [mem_fmV]
    have up : ∀ v, v < n → ¬ ((∃ i, i < m ∧ c i = v) ∨ (sh = 2 ∧ 1 < m ∧ v < c (m - 1))) → (∀ i, i < m + 1 → updN c m v i < n) ∧ (∀ i, i < m + 1 → ∀ j, j < i → updN c m v j ≠ updN c m v i) := fun v hv q => by
      constructor
      · intro i hi
        by_cases z : i = m
        · subst z; rw [updN_s]; exact hv
        · rw [updN_n c z]; exact h i (by omega)
      · intro i hi j hj
        rw [updN_n c (show j ≠ m by omega)]
        by_cases z : i = m
        · subst z; rw [updN_s]; exact fun e => q (Or.inl ⟨j, hj, e⟩)
        · rw [updN_n c z]; exact hd i (by omega) j hj
    constructor
    · rintro ⟨v, hv, hy⟩
      by_cases q : (∃ i, i < m ∧ c i = v) ∨ (sh = 2 ∧ 1 < m ∧ v < c (m - 1))
      · rw [if_pos q] at hy; cases hy
      · rw [if_neg q] at hy
        obtain ⟨u1, u2⟩ := up v hv q
        obtain ⟨nd, h1, h2, h3, h4, h5⟩ := (ih (m + 1) (updN c m v) y (by omega) u1 u2).mp hy
        refine ⟨nd, h1, fun i hi => (h2 i (by omega)).trans (updN_n c (by omega)), h3, fun hs i i1 i2 i3 => ?_, h5⟩
        by_cases z : i = m
        · subst z
          have e1 := h2 i (by omega)
          have e2 := h2 (i - 1) (by omega)
          rw [updN_s] at e1
          rw [updN_n c (by omega)] at e2
          have hne := h1.2 i i3 (i - 1) (by omega)
          have hnl : ¬ v < c (i - 1) := fun z => q (Or.inr ⟨hs, by omega, z⟩)
          omega
        · exact h4 hs i i1 (by omega) i3
    · rintro ⟨nd, h1, h2, h3, h4, h5⟩
      have q : ¬ ((∃ i, i < m ∧ c i = nd m) ∨ (sh = 2 ∧ 1 < m ∧ nd m < c (m - 1))) := by
        rintro (⟨i, hi, e⟩ | ⟨a, b, e⟩)
        · rw [← h2 i hi] at e
          exact h1.2 m (by omega) i hi e
        · rw [← h2 (m - 1) (by omega)] at e
          have := h4 a m (by omega) (by omega) (by omega)
          omega
      have hv := h1.1 m (by omega)
      refine ⟨nd m, hv, ?_⟩
      rw [if_neg q]
      obtain ⟨u1, u2⟩ := up (nd m) hv q
      refine (ih (m + 1) (updN c m (nd m)) y (by omega) u1 u2).mpr ⟨nd, h1, fun i hi => ?_, h3, fun hs i i1 i2 i3 => h4 hs i i1 (by omega) i3, h5⟩
      by_cases z : i = m
      · subst z; rw [updN_s]
      · rw [updN_n c z]; exact h2 i (by omega)
theorem cn_iff {sh k : Nat} (hS : shOk sh k) (nd : Nat → Nat) : cnB sh k nd = true ↔ fsQ sh nd (plN sh k) = true ∧ stC sh (plN sh k) 0 nd := by
  have b5 := (shOk_b hS).2.2.2.2.1
  have h4 : sh = 2 ∨ sh = 1 ∨ (sh = 0 ∨ sh = 3) := by have := (shOk_b hS).1; omega
  rcases h4 with z | z | z
  · subst z
    show ((Nat.blt 2 (plN 2 k) || Nat.blt (nd 0) (nd 1)) && alB (fun i => Nat.blt i 2 || Nat.blt (nd (i - 1)) (nd i)) (plN 2 k)) = true ↔ _
    unfold fsQ stC
    rw [if_pos rfl, and9, Bool.or_eq_true, blt_iff, blt_iff, alB_iff, decide_eq_true_iff]
    refine and_congr Iff.rfl ⟨fun g _ i i1 _ i3 => ?_, fun g i hi => ?_⟩
    · have := g i i3
      rw [Bool.or_eq_true, blt_iff, blt_iff] at this
      omega
    · rw [Bool.or_eq_true, blt_iff, blt_iff]
      by_cases q : i < 2
      · exact Or.inl q
      · exact Or.inr (g rfl i (by omega) (by omega) hi)
  · subst z
    show Nat.blt (nd 0) (nd (plN 1 k - 1)) = true ↔ _
    unfold fsQ stC
    rw [if_neg (by omega), if_pos rfl, blt_iff, decide_eq_true_iff]
    exact ⟨fun g => ⟨g, fun z => by omega⟩, fun g => g.1⟩
  · have e0 : cnB sh k nd = (alB (fun i => !Nat.blt (nd i) (nd 0)) (plN sh k) && Nat.blt (nd 1) (nd (plN sh k - 1))) := by rcases z with z | z <;> subst z <;> rfl
    unfold fsQ stC
    rw [e0, if_neg (by omega), if_neg (by omega), and9, alB_iff, blt_iff, decide_eq_true_iff]
    constructor
    · rintro ⟨g1, g2⟩
      refine ⟨⟨fun i hi => ?_, g2⟩, fun y => by omega⟩
      intro y
      have := g1 i hi
      rw [blt_iff.mpr y] at this
      cases this
    · rintro ⟨⟨g1, g2⟩, -⟩
      refine ⟨fun i hi => ?_, g2⟩
      cases y : Nat.blt (nd i) (nd 0) with
      | false => rfl
      | true => exact absurd (blt_iff.mp y) (g1 i hi)
/-- the parts of a shape are just those that are found -/
theorem ap_mem {n sh k : Nat} (hS : shOk sh k) (hn : n ≤ 11) (y : Int64) : y ∈ apL n sh k ↔ ptP n sh k y := by
  unfold apL
  rw [skL_mem hS (plN sh k) 0 _ y (by omega) (fun i hi => by omega) (fun i hi => by omega)]
  constructor
  · rintro ⟨nd, h1, -, h3, h4, h5⟩
    exact ⟨nd, h1, h5⟩
  · rintro ⟨nd, h1, h5⟩
    obtain ⟨nd', g1, g2, g3⟩ := canE hS hn h1
    obtain ⟨c1, c2⟩ := (cn_iff hS nd').mp g2
    exact ⟨nd', g1, fun i hi => by omega, c1, c2, h5.trans g3.symm⟩
theorem fmV_nd {F : Nat → List Int64} : ∀ {n : Nat}, (∀ v, v < n → (F v).Nodup) → (∀ v w, v < n → w < n → v ≠ w → ∀ y, y ∈ F v → ¬ y ∈ F w) → (fmV F n).Nodup
  | 0, _, _ => List.nodup_nil
  | n + 1, h1, h2 => by
    show (fmV F n ++ F n).Nodup
    rw [List.nodup_append]
    refine ⟨fmV_nd (fun v hv => h1 v (by omega)) (fun v w hv hw => h2 v w (by omega) (by omega)), h1 n (by omega), fun a ha b hb e => ?_⟩
    subst e
    obtain ⟨v, hv, hy⟩ := mem_fmV.mp ha
    exact h2 v n (by omega) (by omega) (by omega) a hy hb
theorem skL_nd {n sh k : Nat} (hS : shOk sh k) (hn : n ≤ 11) : ∀ (r m : Nat) (c : Nat → Nat), m + r = plN sh k → (∀ i, i < m → c i < n) → (∀ i, i < m → ∀ j, j < i → c j ≠ c i) → stC sh m 0 c → (skL n sh k r m c).Nodup := by
  intro r
  induction r with
  | zero =>
    intro m c hm h hd _
    show (if fsQ sh c m = true then [lopN n sh k c k] else []).Nodup
    split
    · exact List.nodup_cons.mpr ⟨(fun h => (by cases h)), List.nodup_nil⟩
    · exact List.nodup_nil
  | succ r ih =>
    intro m c hm h hd hs
    have up : ∀ v, v < n → ¬ ((∃ i, i < m ∧ c i = v) ∨ (sh = 2 ∧ 1 < m ∧ v < c (m - 1))) → (∀ i, i < m + 1 → updN c m v i < n) ∧ (∀ i, i < m + 1 → ∀ j, j < i → updN c m v j ≠ updN c m v i) ∧ stC sh (m + 1) 0 (updN c m v) := fun v hv q => by
      refine ⟨?_, ?_, ?_⟩
      · intro i hi
        by_cases z : i = m
        · subst z; rw [updN_s]; exact hv
        · rw [updN_n c z]; exact h i (by omega)
      · intro i hi j hj
        rw [updN_n c (show j ≠ m by omega)]
        by_cases z : i = m
        · subst z; rw [updN_s]; exact fun e => q (Or.inl ⟨j, hj, e⟩)
        · rw [updN_n c z]; exact hd i (by omega) j hj
      · intro s2 i i1 i2 i3
        rw [updN_n c (show i - 1 ≠ m by omega)]
        by_cases z : i = m
        · subst z
          rw [updN_s]
          have a1 : ¬ v < c (i - 1) := fun z => q (Or.inr ⟨s2, by omega, z⟩)
          have a2 : c (i - 1) ≠ v := fun z => q (Or.inl ⟨i - 1, by omega, z⟩)
          omega
        · rw [updN_n c z]; exact hs s2 i i1 i2 (by omega)
    refine fmV_nd (fun v hv => ?_) (fun v w hv hw hvw y hy hy' => ?_)
    · by_cases q : (∃ i, i < m ∧ c i = v) ∨ (sh = 2 ∧ 1 < m ∧ v < c (m - 1))
      · rw [if_pos q]; exact List.nodup_nil
      · rw [if_neg q]
        obtain ⟨u1, u2, u3⟩ := up v hv q
        exact ih (m + 1) _ (by omega) u1 u2 u3
    · by_cases q : (∃ i, i < m ∧ c i = v) ∨ (sh = 2 ∧ 1 < m ∧ v < c (m - 1))
      · rw [if_pos q] at hy; cases hy
      · by_cases q' : (∃ i, i < m ∧ c i = w) ∨ (sh = 2 ∧ 1 < m ∧ w < c (m - 1))
        · rw [if_pos q'] at hy'; cases hy'
        · rw [if_neg q] at hy
          rw [if_neg q'] at hy'
          obtain ⟨u1, u2, u3⟩ := up v hv q
          obtain ⟨u1', u2', u3'⟩ := up w hw q'
          obtain ⟨nd, h1, h2, h3, h4, h5⟩ := (skL_mem hS r (m + 1) _ y (by omega) u1 u2).mp hy
          obtain ⟨nd', h1', h2', h3', h4', h5'⟩ := (skL_mem hS r (m + 1) _ y (by omega) u1' u2').mp hy'
          have st : ∀ (w : Nat) (nd : Nat → Nat), (∀ i, i < m + 1 → nd i = updN c m w i) → stC sh (m + 1) 0 (updN c m w) → stC sh (plN sh k) (m + 1) nd → stC sh (plN sh k) 0 nd := fun w nd a1 a2 a3 s2 i i1 i2 i3 => by
            by_cases z : i < m + 1
            · rw [a1 i z, a1 (i - 1) (by omega)]; exact a2 s2 i i1 i2 z
            · exact a3 s2 i i1 (by omega) i3
          have := canU hS hn h1 h1' ((cn_iff hS nd).mpr ⟨h3, st v nd h2 u3 h4⟩) ((cn_iff hS nd').mpr ⟨h3', st w nd' h2' u3' h4'⟩) (h5.symm.trans h5') m (by omega)
          rw [h2 m (by omega), h2' m (by omega), updN_s, updN_s] at this
          exact hvw this
theorem ap_nd {n sh k : Nat} (hS : shOk sh k) (hn : n ≤ 11) : (apL n sh k).Nodup := skL_nd hS hn _ 0 _ (by omega) (fun i hi => by omega) (fun i hi => by omega) (fun _ i _ _ i3 => by omega)
