theorem chU_ok {sh k : Nat} (hS : shOk sh k) : chU sh k = true := by
  rcases hS with ⟨h1, h2⟩ | ⟨h1, h2, h3⟩ | ⟨h1, h2, h3⟩ | ⟨h1, h2, h3⟩ <;> subst h1
  · subst h2; exact chU_0_3
  · have : k = 1 ∨ k = 2 ∨ k = 3 ∨ k = 4 := by omega
    rcases this with z | z | z | z <;> subst z
    · exact chU_1_1
    · exact chU_1_2
    · exact chU_1_3
    · exact chU_1_4
  · have : k = 1 ∨ k = 2 ∨ k = 3 ∨ k = 4 := by omega
    rcases this with z | z | z | z <;> subst z
    · exact chU_2_1
    · exact chU_2_2
    · exact chU_2_3
    · exact chU_2_4
  · have : k = 3 ∨ k = 4 ∨ k = 5 := by omega
    rcases this with z | z | z <;> subst z
    · exact chU_3_3
    · exact chU_3_4
    · exact chU_3_5
theorem chE_ok {sh k : Nat} (hS : shOk sh k) : chE sh k = true := by
  rcases hS with ⟨h1, h2⟩ | ⟨h1, h2, h3⟩ | ⟨h1, h2, h3⟩ | ⟨h1, h2, h3⟩ <;> subst h1
  · subst h2; exact chE_0_3
  · have : k = 1 ∨ k = 2 ∨ k = 3 ∨ k = 4 := by omega
    rcases this with z | z | z | z <;> subst z
    · exact chE_1_1
    · exact chE_1_2
    · exact chE_1_3
    · exact chE_1_4
  · have : k = 1 ∨ k = 2 ∨ k = 3 ∨ k = 4 := by omega
    rcases this with z | z | z | z <;> subst z
    · exact chE_2_1
    · exact chE_2_2
    · exact chE_2_3
    · exact chE_2_4
  · have : k = 3 ∨ k = 4 ∨ k = 5 := by omega
    rcases this with z | z | z <;> subst z
    · exact chE_3_3
    · exact chE_3_4
    · exact chE_3_5
theorem alB_congr {p q : Nat → Bool} {n : Nat} (h : ∀ i, i < n → p i = q i) : alB p n = alB q n := by
  induction n with
  | zero => rfl
  | succ n ih => show (alB p n && p n) = (alB q n && q n); rw [ih (fun i hi => h i (by omega)), h n (by omega)]
theorem blt_iff {a b : Nat} : Nat.blt a b = true ↔ a < b := by
  rw [Nat.blt_eq]
theorem blt_congr {a b c d : Nat} (h : a < b ↔ c < d) : Nat.blt a b = Nat.blt c d := by
  cases e1 : Nat.blt a b <;> cases e2 : Nat.blt c d
  · rfl
  · have := h.mpr (blt_iff.mp e2); rw [blt_iff.mpr this] at e1; cases e1
  · have := h.mp (blt_iff.mp e1); rw [blt_iff.mpr this] at e2; cases e2
  · rfl
/-- only the order of the nodes tells whether a row stands for its part -/
theorem cnB_congr {sh k : Nat} {c c' : Nat → Nat} (hS : shOk sh k) (h : ∀ i j, i < plN sh k → j < plN sh k → (c i < c j ↔ c' i < c' j)) : cnB sh k c = cnB sh k c' := by
  have hp := (shOk_b hS).2.2.2.2.1
  have e := fun i j hi hj => blt_congr (h i j hi hj)
  have h4 : sh = 2 ∨ sh = 1 ∨ (sh = 0 ∨ sh = 3) := by have := (shOk_b hS).1; omega
  rcases h4 with z | z | z
  · subst z
    show ((Nat.blt 2 (plN 2 k) || Nat.blt (c 0) (c 1)) && alB (fun i => Nat.blt i 2 || Nat.blt (c (i - 1)) (c i)) (plN 2 k)) = ((Nat.blt 2 (plN 2 k) || Nat.blt (c' 0) (c' 1)) && alB (fun i => Nat.blt i 2 || Nat.blt (c' (i - 1)) (c' i)) (plN 2 k))
    rw [e 0 1 (by omega) (by omega), alB_congr (fun i hi => by rw [e (i - 1) i (by omega) hi])]
  · subst z
    exact e 0 _ (by omega) (by omega)
  · have e0 : ∀ c : Nat → Nat, cnB sh k c = (alB (fun i => !Nat.blt (c i) (c 0)) (plN sh k) && Nat.blt (c 1) (c (plN sh k - 1))) := fun c => by rcases z with z | z <;> subst z <;> rfl
    rw [e0, e0, e 1 _ (by omega) (by omega), alB_congr (fun i hi => by rw [e i 0 hi (by omega)])]
/-- the rank of a node among the nodes of a row -/
def rkN (pl : Nat) (nd : Nat → Nat) (i : Nat) : Nat := smB (fun t => (decide (nd t < nd i)).toNat) pl
theorem rk_lt {pl : Nat} {nd : Nat → Nat} {i j : Nat} (hi : i < pl) : nd i < nd j → rkN pl nd i < rkN pl nd j := fun h => by
  refine smB_lt pl (fun t _ => ?_) ⟨i, hi, ?_⟩
  · by_cases q : nd t < nd i
    · rw [decide_eq_true q, decide_eq_true (show nd t < nd j by omega)]; exact Nat.le_refl _
    · rw [decide_eq_false q]; exact Nat.zero_le _
  · rw [decide_eq_false (by omega), decide_eq_true h]; decide
theorem rk_iff {pl : Nat} {nd : Nat → Nat} {i j : Nat} (hi : i < pl) (hj : j < pl) : nd i < nd j ↔ rkN pl nd i < rkN pl nd j := by
  constructor
  · exact rk_lt hi
  · intro h
    rcases Nat.lt_trichotomy (nd i) (nd j) with q | q | q
    · exact q
    · unfold rkN at h; rw [q] at h; omega
    · have := rk_lt hj q; omega
theorem rk_pl {pl : Nat} {nd : Nat → Nat} {i : Nat} (hi : i < pl) : rkN pl nd i < pl := by
  have h1 : smB (fun _ => 1) pl = pl := by
    have : ∀ n, smB (fun _ => 1) n = n := fun n => by induction n with
      | zero => rfl
      | succ n ih => show smB (fun _ => 1) n + 1 = n + 1; rw [ih]
    exact this pl
  have : rkN pl nd i < smB (fun _ => 1) pl := smB_lt pl (fun t _ => by cases decide (nd t < nd i) <;> decide) ⟨i, hi, by
    show (decide (nd i < nd i)).toNat < 1
    rw [decide_eq_false (Nat.lt_irrefl _)]; decide⟩
  omega
theorem ljB_iff {pl : Nat} {p : Nat → Nat} : ljB pl p = true ↔ ∀ i, i < pl → ∀ j, j < i → p j ≠ p i := by
  unfold ljB
  rw [alB_iff]
  constructor
  · intro h i hi j hj e
    have := (alB_iff _ _).mp (h i hi) j hj
    rw [e, Nat.beq_refl] at this
    cases this
  · intro h i hi
    rw [alB_iff]
    intro j hj
    cases z : Nat.beq (p j) (p i) with
    | false => rfl
    | true => exact absurd (Nat.eq_of_beq_eq_true z) (h i hi j hj)
def edM (sh k : Nat) (p : Nat → Nat) (t s : Nat) : Prop := (p (lsN sh t) = lsN sh s ∧ p (leN sh k t) = leN sh k s) ∨ (p (lsN sh t) = leN sh k s ∧ p (leN sh k t) = lsN sh s)
theorem ed_iff {sh k : Nat} {p : Nat → Nat} {t s : Nat} : ((Nat.beq (p (lsN sh t)) (lsN sh s) && Nat.beq (p (leN sh k t)) (leN sh k s)) || (Nat.beq (p (lsN sh t)) (leN sh k s) && Nat.beq (p (leN sh k t)) (lsN sh s))) = true ↔ edM sh k p t s := by
  unfold edM
  rw [Bool.or_eq_true, and9, and9, beq9, beq9, beq9, beq9]
theorem au1_iff {sh k : Nat} {p : Nat → Nat} : au1 sh k p = true ↔ (∀ i, i < plN sh k → ∀ j, j < i → p j ≠ p i) ∧ ∀ t, t < k → ∃ s, s < k ∧ edM sh k p t s := by
  unfold au1
  rw [and9, ljB_iff, alB_iff]
  constructor
  · rintro ⟨h1, h2⟩
    refine ⟨h1, fun t ht => ?_⟩
    obtain ⟨s, hs, e⟩ := (exB9_iff _ _).mp (h2 t ht)
    exact ⟨s, hs, ed_iff.mp e⟩
  · rintro ⟨h1, h2⟩
    refine ⟨h1, fun t ht => (exB9_iff _ _).mpr ?_⟩
    obtain ⟨s, hs, e⟩ := h2 t ht
    exact ⟨s, hs, ed_iff.mpr e⟩
theorem au2_use {sh k : Nat} {p : Nat → Nat} (h : au2 sh k p = true) {s : Nat} (hs : s < k) : ∃ t, t < k ∧ edM sh k p t s := by
  obtain ⟨t, ht, e⟩ := (exB9_iff _ _).mp ((alB_iff _ _).mp h s hs)
  exact ⟨t, ht, ed_iff.mp e⟩
theorem edM_congr {sh k : Nat} {p p' : Nat → Nat} (hS : shOk sh k) (h : ∀ i, i < plN sh k → p i = p' i) {t s : Nat} (ht : t < k) : edM sh k p t s ↔ edM sh k p' t s := by
  obtain ⟨q1, q2, -⟩ := (shOk_b hS).2.2.2.2.2 t ht
  unfold edM
  rw [h _ q1, h _ q2]
/-- every node of a part is on one of its lines -/
theorem covB : alB (fun sh => alB (fun k => !shB sh k || alB (fun i => exB9 (fun t => Nat.beq (lsN sh t) i || Nat.beq (leN sh k t) i) k) (plN sh k)) 6) 4 = true := by decide +kernel
theorem cov {sh k : Nat} (hS : shOk sh k) {i : Nat} (hi : i < plN sh k) : ∃ t, t < k ∧ (lsN sh t = i ∨ leN sh k t = i) := by
  obtain ⟨t, h1, h2⟩ := (exB9_iff _ _).mp ((alB_iff _ _).mp (sh_all (p := fun sh k => alB (fun i => exB9 (fun t => Nat.beq (lsN sh t) i || Nat.beq (leN sh k t) i) k) (plN sh k)) covB hS) i hi)
  rw [Bool.or_eq_true, beq9, beq9] at h2
  exact ⟨t, h1, h2⟩
/-- two rows that stand for parts and tell one part are one -/
theorem canU {n sh k : Nat} {nd nd' : Nat → Nat} (hS : shOk sh k) (hn : n ≤ 11) (h : ndOk n (plN sh k) nd) (h' : ndOk n (plN sh k) nd') (hc : cnB sh k nd = true) (hc' : cnB sh k nd' = true) (e : lopN n sh k nd k = lopN n sh k nd' k) : ∀ i, i < plN sh k → nd i = nd' i := by
  obtain ⟨b1, b2, b3, b4, b5, b6⟩ := shOk_b hS
  -- a line of the second row is one of the first
  have line : ∀ t, t < k → ∃ s, s < k ∧ ((nd' (lsN sh t) = nd (lsN sh s) ∧ nd' (leN sh k t) = nd (leN sh k s)) ∨ (nd' (lsN sh t) = nd (leN sh k s) ∧ nd' (leN sh k t) = nd (lsN sh s))) := fun t ht => by
    obtain ⟨l1, l2, l3, l4⟩ := lop_ln hS hn h' ht
    have hb := (lop_bit hS hn h' _ k (Nat.le_refl _)).mpr ⟨t, ht, rfl⟩
    rw [← e] at hb
    obtain ⟨s, hs, es⟩ := (lop_bit hS hn h _ k (Nat.le_refl _)).mp hb
    obtain ⟨m1, m2, m3, m4⟩ := lop_ln hS hn h hs
    exact ⟨s, hs, ln_inj hn l2 l3 l4 m2 m3 m4 es.symm⟩
  have node : ∀ i, ∃ j, i < plN sh k → j < plN sh k ∧ nd' i = nd j := fun i => by
    by_cases hi : i < plN sh k
    · obtain ⟨t, ht, ht2⟩ := cov hS hi
      obtain ⟨s, hs, es⟩ := line t ht
      obtain ⟨q1, q2, -⟩ := b6 s hs
      rcases ht2 with z | z <;> rcases es with ⟨u, v⟩ | ⟨u, v⟩ <;> rw [z] at * <;> first | exact ⟨_, fun _ => ⟨q1, u⟩⟩ | exact ⟨_, fun _ => ⟨q2, u⟩⟩ | exact ⟨_, fun _ => ⟨q1, v⟩⟩ | exact ⟨_, fun _ => ⟨q2, v⟩⟩
    · exact ⟨0, fun z => absurd z hi⟩
  obtain ⟨p, hp⟩ := Classical.axiomOfChoice node
  have hpl : ∀ i, i < plN sh k → p i < plN sh k := fun i hi => (hp i hi).1
  have hpe : ∀ i, i < plN sh k → nd' i = nd (p i) := fun i hi => (hp i hi).2
  have ha : au1 sh k p = true := au1_iff.mpr ⟨fun i hi j hj z => by
      have := h'.2 i hi j hj
      rw [hpe i hi, hpe j (by omega), z] at this
      exact this rfl, fun t ht => by
      obtain ⟨s, hs, es⟩ := line t ht
      obtain ⟨q1, q2, -⟩ := b6 s hs
      obtain ⟨r1, r2, -⟩ := b6 t ht
      refine ⟨s, hs, ?_⟩
      rw [hpe _ r1, hpe _ r2] at es
      rcases es with ⟨u, v⟩ | ⟨u, v⟩
      · exact Or.inl ⟨h.inj (hpl _ r1) q1 u, h.inj (hpl _ r2) q2 v⟩
      · exact Or.inr ⟨h.inj (hpl _ r1) q2 u, h.inj (hpl _ r2) q1 v⟩⟩
  have hU := chU_ok hS
  unfold chU at hU
  obtain ⟨p', hq, hpp⟩ := al5_use hU b4 p hpl
  have ha' : au1 sh k p' = true := by
    obtain ⟨a1, a2⟩ := au1_iff.mp ha
    refine au1_iff.mpr ⟨fun i hi j hj => by rw [hpp i hi, hpp j (by omega)]; exact a1 i hi j hj, fun t ht => ?_⟩
    obtain ⟨s, hs, es⟩ := a2 t ht
    exact ⟨s, hs, (edM_congr hS hpp ht).mpr es⟩
  rw [ha'] at hq
  have hq : al5 (plN sh k) (fun r => !(ljB (plN sh k) r && (cnB sh k r && cnB sh k (fun i => r (p' i)))) || alB (fun i => Nat.beq (p' i) i) (plN sh k)) = true := hq
  obtain ⟨r, hr, hrr⟩ := al5_use hq b4 (rkN (plN sh k) nd) (fun i hi => rk_pl hi)
  have ord : ∀ i j, i < plN sh k → j < plN sh k → (nd i < nd j ↔ r i < r j) := fun i j hi hj => by rw [hrr i hi, hrr j hj]; exact rk_iff hi hj
  have c1 : cnB sh k r = true := (cnB_congr hS ord).symm.trans hc
  have c2 : cnB sh k (fun i => r (p' i)) = true := by
    refine (cnB_congr hS (fun i j hi hj => ?_)).symm.trans hc'
    rw [hpe i hi, hpe j hj, ord _ _ (hpl i hi) (hpl j hj)]
    show r (p i) < r (p j) ↔ r (p' i) < r (p' j)
    rw [hpp i hi, hpp j hj]
  have c0 : ljB (plN sh k) r = true := ljB_iff.mpr (fun i hi j hj z => by
    have hne := h.2 i hi j hj
    have o1 := ord i j hi (by omega)
    have o2 := ord j i (by omega) hi
    omega)
  rw [c0, c1, c2] at hr
  have hr : alB (fun i => Nat.beq (p' i) i) (plN sh k) = true := hr
  intro i hi
  have := beq9.mp ((alB_iff _ _).mp hr i hi)
  rw [hpp i hi] at this
  rw [hpe i hi, this]
/-- each row tells a part for which some row stands -/
theorem canE {n sh k : Nat} {nd : Nat → Nat} (hS : shOk sh k) (hn : n ≤ 11) (h : ndOk n (plN sh k) nd) : ∃ nd', ndOk n (plN sh k) nd' ∧ cnB sh k nd' = true ∧ lopN n sh k nd' k = lopN n sh k nd k := by
  obtain ⟨b1, b2, b3, b4, b5, b6⟩ := shOk_b hS
  have hE := chE_ok hS
  unfold chE at hE
  obtain ⟨r, hr, hrr⟩ := al5_use hE b4 (rkN (plN sh k) nd) (fun i hi => rk_pl hi)
  have ord : ∀ i j, i < plN sh k → j < plN sh k → (nd i < nd j ↔ r i < r j) := fun i j hi hj => by rw [hrr i hi, hrr j hj]; exact rk_iff hi hj
  have c0 : ljB (plN sh k) r = true := ljB_iff.mpr (fun i hi j hj z => by
    have hne := h.2 i hi j hj
    have o1 := ord i j hi (by omega)
    have o2 := ord j i (by omega) hi
    omega)
  rw [c0] at hr
  have hr : ex5 (plN sh k) (fun p => au1 sh k p && (au2 sh k p && cnB sh k (fun i => r (p i)))) = true := hr
  obtain ⟨p, hp, hpl⟩ := ex5_use hr b4
  rw [and9, and9] at hp
  obtain ⟨p1, p2, p3⟩ := hp
  obtain ⟨a1, a2⟩ := au1_iff.mp p1
  have hk : ndOk n (plN sh k) (fun i => nd (p i)) := ⟨fun i hi => h.1 _ (hpl i hi), fun i hi j hj e => a1 i hi j hj (h.inj (hpl j (by omega)) (hpl i hi) e)⟩
  refine ⟨fun i => nd (p i), hk, ?_, ?_⟩
  · exact (cnB_congr hS (fun i j hi hj => (ord _ _ (hpl i hi) (hpl j hj)))).trans p3
  · refine btL_ext fun j _ => ?_
    have i1 := lop_bit hS hn hk j k (Nat.le_refl _)
    have i2 := lop_bit hS hn h j k (Nat.le_refl _)
    have : (∃ t, t < k ∧ lnN n (nd (p (lsN sh t))) (nd (p (leN sh k t))) = j) ↔ ∃ t, t < k ∧ lnN n (nd (lsN sh t)) (nd (leN sh k t)) = j := by
      constructor
      · rintro ⟨t, ht, e⟩
        obtain ⟨s, hs, es⟩ := a2 t ht
        refine ⟨s, hs, ?_⟩
        rcases es with ⟨u, v⟩ | ⟨u, v⟩
        · rw [u, v] at e; exact e
        · rw [u, v, lnN_sym] at e; exact e
      · rintro ⟨s, hs, e⟩
        obtain ⟨t, ht, es⟩ := au2_use p2 hs
        refine ⟨t, ht, ?_⟩
        rcases es with ⟨u, v⟩ | ⟨u, v⟩
        · rw [u, v]; exact e
        · rw [u, v, lnN_sym]; exact e
    cases e1 : btL (lopN n sh k (fun i => nd (p i)) k) j <;> cases e2 : btL (lopN n sh k nd k) j
    · rfl
    · have := i1.mpr (this.mpr (i2.mp e2)); rw [e1] at this; cases this
    · have := i2.mpr (this.mp (i1.mp e1)); rw [e2] at this; cases this
    · rfl
