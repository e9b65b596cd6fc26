/-! ===== classes: both sides find the fewest ===== -/
/-- the fewest classes with which the parts from p on can be placed -/
def mnV (Fn : (Nat → Int32) → Nat → Nat) (t : Int32) (cn : Nat → Int32) (us : Nat) : Nat → Nat → Nat
  | 0, best => best
  | z + 1, best => if cn z &&& t = 0 then min (mnV Fn t cn us z best) (Fn (upd cn z (cn z ||| t)) us) else mnV Fn t cn us z best
def mnF (nd : Nat → Int32) : Nat → Nat → (Nat → Int32) → Nat → Nat
  | 0, _, _, us => us
  | r + 1, p, cn, us => mnV (fun cn' us' => mnF nd r (p + 1) cn' us') (nd p) cn us us (mnF nd r (p + 1) (upd cn us (nd p)) (us + 1))
theorem mnV_le (Fn : (Nat → Int32) → Nat → Nat) (t : Int32) (cn : Nat → Int32) (us : Nat) : ∀ z best, mnV Fn t cn us z best ≤ best
  | 0, _ => Nat.le_refl _
  | z + 1, best => by
    show (if cn z &&& t = 0 then min (mnV Fn t cn us z best) _ else mnV Fn t cn us z best) ≤ best
    have := mnV_le Fn t cn us z best
    split <;> omega
theorem mnV_iff {Fn : (Nat → Int32) → Nat → Nat} {t : Int32} {cn : Nat → Int32} {us m : Nat} : ∀ z best, mnV Fn t cn us z best ≤ m ↔ best ≤ m ∨ ∃ i, i < z ∧ cn i &&& t = 0 ∧ Fn (upd cn i (cn i ||| t)) us ≤ m
  | 0, best => ⟨Or.inl, fun h => by rcases h with h | ⟨i, h, -⟩; exact h; omega⟩
  | z + 1, best => by
    have ih := mnV_iff (Fn := Fn) (t := t) (cn := cn) (us := us) (m := m) z best
    show (if cn z &&& t = 0 then min (mnV Fn t cn us z best) (Fn (upd cn z (cn z ||| t)) us) else mnV Fn t cn us z best) ≤ m ↔ _
    by_cases q : cn z &&& t = 0
    · rw [if_pos q, show (min (mnV Fn t cn us z best) (Fn (upd cn z (cn z ||| t)) us) ≤ m) ↔ (mnV Fn t cn us z best ≤ m ∨ Fn (upd cn z (cn z ||| t)) us ≤ m) by omega, ih]
      constructor
      · rintro ((h | ⟨i, h1, h2⟩) | h)
        · exact Or.inl h
        · exact Or.inr ⟨i, by omega, h2⟩
        · exact Or.inr ⟨z, by omega, q, h⟩
      · rintro (h | ⟨i, h1, h2, h3⟩)
        · exact Or.inl (Or.inl h)
        · by_cases y : i = z
          · subst y; exact Or.inr h3
          · exact Or.inl (Or.inr ⟨i, by omega, h2, h3⟩)
    · rw [if_neg q, ih]
      constructor
      · rintro (h | ⟨i, h1, h2⟩)
        · exact Or.inl h
        · exact Or.inr ⟨i, by omega, h2⟩
      · rintro (h | ⟨i, h1, h2, h3⟩)
        · exact Or.inl h
        · by_cases y : i = z
          · subst y; exact absurd h2 q
          · exact Or.inr ⟨i, by omega, h2, h3⟩
theorem mnF_iff {nd : Nat → Int32} {r p : Nat} {cn : Nat → Int32} {us m : Nat} : mnF nd (r + 1) p cn us ≤ m ↔ mnF nd r (p + 1) (upd cn us (nd p)) (us + 1) ≤ m ∨ ∃ i, i < us ∧ cn i &&& nd p = 0 ∧ mnF nd r (p + 1) (upd cn i (cn i ||| nd p)) us ≤ m := mnV_iff us _
theorem mnF_congr {nd : Nat → Int32} : ∀ (r p : Nat) (cn cn' : Nat → Int32) (us m : Nat), (∀ i, i < us → cn i = cn' i) → (mnF nd r p cn us ≤ m ↔ mnF nd r p cn' us ≤ m) := by
  intro r
  induction r with
  | zero => exact fun p cn cn' us m _ => Iff.rfl
  | succ r ih =>
    intro p cn cn' us m h
    rw [mnF_iff, mnF_iff]
    refine or_congr (ih _ _ _ _ _ (fun i hi => ?_)) ?_
    · by_cases z : i = us
      · subst z; rw [pk_us, pk_us]
      · rw [pk_un z, pk_un z]; exact h i (by omega)
    · constructor
      · rintro ⟨i, h1, h2, h3⟩
        refine ⟨i, h1, by rw [← h i h1]; exact h2, (ih _ _ _ _ _ (fun k hk => ?_)).mp h3⟩
        rw [h i h1]
        by_cases z : k = i
        · subst z; rw [pk_us, pk_us]
        · rw [pk_un z, pk_un z]; exact h k hk
      · rintro ⟨i, h1, h2, h3⟩
        refine ⟨i, h1, by rw [h i h1]; exact h2, (ih _ _ _ _ _ (fun k hk => ?_)).mpr h3⟩
        rw [h i h1]
        by_cases z : k = i
        · subst z; rw [pk_us, pk_us]
        · rw [pk_un z, pk_un z]; exact h k hk
theorem mnF_ge {nd : Nat → Int32} : ∀ (r p : Nat) (cn : Nat → Int32) (us : Nat), us ≤ mnF nd r p cn us := by
  intro r
  induction r with
  | zero => exact fun p cn us => Nat.le_refl _
  | succ r ih =>
    intro p cn us
    rcases Nat.lt_or_ge (mnF nd (r + 1) p cn us) us with q | q
    · exfalso
      have h : mnF nd (r + 1) p cn us ≤ us - 1 := by omega
      rw [mnF_iff] at h
      rcases h with h | ⟨i, -, -, h⟩
      · have := ih (p + 1) (upd cn us (nd p)) (us + 1); omega
      · have := ih (p + 1) (upd cn i (cn i ||| nd p)) us; omega
    · exact q
theorem mnF_le {nd : Nat → Int32} : ∀ (r p : Nat) (cn : Nat → Int32) (us : Nat), mnF nd r p cn us ≤ us + r := by
  intro r
  induction r with
  | zero => exact fun p cn us => Nat.le_refl _
  | succ r ih =>
    intro p cn us
    rw [mnF_iff]
    exact Or.inl (by have := ih (p + 1) (upd cn us (nd p)) (us + 1); omega)
/-- the reference's way: the fewest, or what it had -/
theorem clF_mn {nd : Nat → Int32} : ∀ (r p : Nat) (cn : Nat → Int32) (us best : Nat), clF nd r p cn us best = min best (mnF nd r p cn us) := by
  intro r
  induction r with
  | zero =>
    intro p cn us best
    show (if best ≤ us then best else us) = min best us
    split <;> omega
  | succ r ih =>
    intro p cn us best
    have ge := mnF_ge (nd := nd) (r + 1) p cn us
    show (if best ≤ us then best else clV (fun cn' us' best' => clF nd r (p + 1) cn' us' best') (nd p) cn us (us + 1) 0 best) = _
    by_cases q : best ≤ us
    · rw [if_pos q]; omega
    · rw [if_neg q]
      -- from class k on
      have key : ∀ (z k best : Nat), k + z = us + 1 → ∀ m, (clV (fun cn' us' best' => clF nd r (p + 1) cn' us' best') (nd p) cn us z k best ≤ m ↔ best ≤ m ∨ (k ≤ us ∧ mnF nd r (p + 1) (upd cn us (nd p)) (us + 1) ≤ m) ∨ ∃ i, k ≤ i ∧ i < us ∧ cn i &&& nd p = 0 ∧ mnF nd r (p + 1) (upd cn i (cn i ||| nd p)) us ≤ m) := by
        intro z
        induction z with
        | zero =>
          intro k best hk m
          show best ≤ m ↔ _
          constructor
          · exact Or.inl
          · rintro (h | ⟨h, -⟩ | ⟨i, h1, h2, -⟩)
            · exact h
            · omega
            · omega
        | succ z ihz =>
          intro k best hk m
          have e : clV (fun cn' us' best' => clF nd r (p + 1) cn' us' best') (nd p) cn us (z + 1) k best = if k < us ∧ ¬ cn k &&& nd p = 0 then clV (fun cn' us' best' => clF nd r (p + 1) cn' us' best') (nd p) cn us z (k + 1) best else clV (fun cn' us' best' => clF nd r (p + 1) cn' us' best') (nd p) cn us z (k + 1) (clF nd r (p + 1) (upd cn k (if k = us then nd p else cn k ||| nd p)) (if k = us then us + 1 else us) best) := rfl
          rw [e]
          by_cases y : k < us ∧ ¬ cn k &&& nd p = 0
          · rw [if_pos y, ihz (k + 1) best (by omega) m]
            constructor
            · rintro (h | ⟨h, h'⟩ | ⟨i, h1, h2, h3⟩)
              · exact Or.inl h
              · exact Or.inr (Or.inl ⟨by omega, h'⟩)
              · exact Or.inr (Or.inr ⟨i, by omega, h2, h3⟩)
            · rintro (h | ⟨h, h'⟩ | ⟨i, h1, h2, h3, h4⟩)
              · exact Or.inl h
              · exact Or.inr (Or.inl ⟨by omega, h'⟩)
              · by_cases w : i = k
                · subst w; exact absurd h3 y.2
                · exact Or.inr (Or.inr ⟨i, by omega, h2, h3, h4⟩)
          · rw [if_neg y, ihz (k + 1) _ (by omega) m, ih]
            by_cases w : k = us
            · rw [if_pos w, if_pos w, w, show (min best (mnF nd r (p + 1) (upd cn us (nd p)) (us + 1)) ≤ m) ↔ (best ≤ m ∨ mnF nd r (p + 1) (upd cn us (nd p)) (us + 1) ≤ m) by omega]
              constructor
              · rintro ((h | h) | ⟨h, h'⟩ | ⟨i, h1, h2, h3⟩)
                · exact Or.inl h
                · exact Or.inr (Or.inl ⟨Nat.le_refl _, h⟩)
                · omega
                · omega
              · rintro (h | ⟨h, h'⟩ | ⟨i, h1, h2, h3, h4⟩)
                · exact Or.inl (Or.inl h)
                · exact Or.inl (Or.inr h')
                · omega
            · rw [if_neg w, if_neg w, show (min best (mnF nd r (p + 1) (upd cn k (cn k ||| nd p)) us) ≤ m) ↔ (best ≤ m ∨ mnF nd r (p + 1) (upd cn k (cn k ||| nd p)) us ≤ m) by omega]
              have hk0 : cn k &&& nd p = 0 := Decidable.byContradiction fun u => y ⟨by omega, u⟩
              constructor
              · rintro ((h | h) | ⟨h, h'⟩ | ⟨i, h1, h2, h3⟩)
                · exact Or.inl h
                · exact Or.inr (Or.inr ⟨k, Nat.le_refl _, by omega, hk0, h⟩)
                · exact Or.inr (Or.inl ⟨by omega, h'⟩)
                · exact Or.inr (Or.inr ⟨i, by omega, h2, h3⟩)
              · rintro (h | ⟨h, h'⟩ | ⟨i, h1, h2, h3, h4⟩)
                · exact Or.inl (Or.inl h)
                · exact Or.inr (Or.inl ⟨by omega, h'⟩)
                · by_cases u : i = k
                  · subst u; exact Or.inl (Or.inr h4)
                  · exact Or.inr (Or.inr ⟨i, by omega, h2, h3, h4⟩)
      have h1 := key (us + 1) 0 best (by omega)
      have h2 : ∀ m, clV (fun cn' us' best' => clF nd r (p + 1) cn' us' best') (nd p) cn us (us + 1) 0 best ≤ m ↔ min best (mnF nd (r + 1) p cn us) ≤ m := fun m => by
        rw [h1 m, show (min best (mnF nd (r + 1) p cn us) ≤ m) ↔ (best ≤ m ∨ mnF nd (r + 1) p cn us ≤ m) by omega, mnF_iff]
        constructor
        · rintro (h | ⟨-, h⟩ | ⟨i, -, a, b⟩)
          · exact Or.inl h
          · exact Or.inr (Or.inl h)
          · exact Or.inr (Or.inr ⟨i, a, b⟩)
        · rintro (h | h | ⟨i, a, b⟩)
          · exact Or.inl h
          · exact Or.inr (Or.inl ⟨Nat.zero_le _, h⟩)
          · exact Or.inr (Or.inr ⟨i, Nat.zero_le _, a, b⟩)
      have a1 := (h2 _).mp (Nat.le_refl _)
      have a2 := (h2 _).mpr (Nat.le_refl _)
      omega
/-- the class's way: whether so many are enough -/
theorem anyF_iff (F : Nat → Bool) : ∀ w i, anyF F w i = true ↔ ∃ j, i ≤ j ∧ j < i + w ∧ F j = true
  | 0, i => ⟨(fun h => (by cases h)), fun ⟨j, h1, h2, _⟩ => by omega⟩
  | w + 1, i => by
    show (if F i = true then true else anyF F w (i + 1)) = true ↔ _
    by_cases q : F i = true
    · rw [if_pos q]; exact ⟨fun _ => ⟨i, by omega, by omega, q⟩, fun _ => rfl⟩
    · rw [if_neg q, anyF_iff F w (i + 1)]
      constructor
      · rintro ⟨j, h1, h2, h3⟩; exact ⟨j, by omega, by omega, h3⟩
      · rintro ⟨j, h1, h2, h3⟩
        by_cases y : j = i
        · subst y; exact absurd h3 q
        · exact ⟨j, by omega, by omega, h3⟩
theorem plB_mn {pN : Nat → Int32} {limit : Nat} : ∀ (z part used : Nat) (cl : Nat → Int32), used ≤ limit → (∀ i, used ≤ i → cl i = 0) → (plB pN limit z part used cl = true ↔ mnF pN z part cl used ≤ limit) := by
  intro z
  induction z with
  | zero => exact fun part used cl h _ => ⟨fun _ => h, fun _ => rfl⟩
  | succ z ih =>
    intro part used cl h h0
    show anyF (fun i => decide (cl i &&& pN part = 0) && plB pN limit z (part + 1) (max used (i + 1)) (upd cl i (cl i ||| pN part))) (min (used + 1) limit) 0 = true ↔ _
    rw [anyF_iff, mnF_iff]
    have up0 : ∀ i, i ≤ used → ∀ k, max used (i + 1) ≤ k → upd cl i (cl i ||| pN part) k = 0 := fun i hi k hk => by
      rw [pk_un (by omega)]; exact h0 k (by omega)
    constructor
    · rintro ⟨i, -, h2, h3⟩
      rw [and9, decide_eq_true_iff] at h3
      obtain ⟨h3, h4⟩ := h3
      have h4 := (ih (part + 1) (max used (i + 1)) _ (by omega) (up0 i (by omega))).mp h4
      by_cases y : i = used
      · subst y
        rw [h0 i (Nat.le_refl _), Int32.zero_or, show max i (i + 1) = i + 1 by omega] at h4
        exact Or.inl h4
      · rw [show max used (i + 1) = used by omega] at h4
        exact Or.inr ⟨i, by omega, h3, h4⟩
    · rintro (h4 | ⟨i, h2, h3, h4⟩)
      · have := mnF_ge (nd := pN) z (part + 1) (upd cl used (pN part)) (used + 1)
        refine ⟨used, Nat.zero_le _, by omega, ?_⟩
        rw [and9, decide_eq_true_iff, h0 used (Nat.le_refl _)]
        refine ⟨Int32.zero_and, (ih (part + 1) (max used (used + 1)) _ (by omega) (fun k hk => by rw [pk_un (by omega)]; exact h0 k (by omega))).mpr ?_⟩
        rw [Int32.zero_or, show max used (used + 1) = used + 1 by omega]
        exact h4
      · refine ⟨i, Nat.zero_le _, by omega, ?_⟩
        rw [and9, decide_eq_true_iff]
        refine ⟨h3, (ih (part + 1) (max used (i + 1)) _ (by omega) (up0 i (by omega))).mpr ?_⟩
        rw [show max used (i + 1) = used by omega]
        exact h4
theorem fwN_mn {pN : Nat → Int32} {parts : Nat} (hle : mnF pN parts 0 (fun _ => 0) 0 ≤ parts) : ∀ (z l : Nat), l + z = parts → l ≤ mnF pN parts 0 (fun _ => 0) 0 → fwN pN parts z l = mnF pN parts 0 (fun _ => 0) 0 := by
  intro z
  induction z with
  | zero => intro l h1 h2; show parts = _; omega
  | succ z ih =>
    intro l h1 h2
    show (if plB pN l parts 0 0 (fun _ => 0) = true then l else fwN pN parts z (l + 1)) = _
    have := plB_mn (pN := pN) (limit := l) parts 0 0 (fun _ => 0) (Nat.zero_le _) (fun _ _ => rfl)
    by_cases q : plB pN l parts 0 0 (fun _ => 0) = true
    · rw [if_pos q]; have := this.mp q; omega
    · rw [if_neg q]
      have h3 : ¬ mnF pN parts 0 (fun _ => 0) 0 ≤ l := fun z => q (this.mpr z)
      exact ih (l + 1) (by omega) (by omega)
/-! parts that meet at one node are in as many classes -/
theorem smB_hd (f : Nat → Nat) : ∀ n, smB f (n + 1) = f 0 + smB (fun i => f (i + 1)) n
  | 0 => by show 0 + f 0 = f 0 + 0; omega
  | n + 1 => by show smB f (n + 1) + f (n + 1) = f 0 + (smB (fun i => f (i + 1)) n + f (n + 1)); rw [smB_hd f n]; omega
theorem smB_upd {f g : Nat → Nat} {i : Nat} (h : ∀ j, j ≠ i → f j = g j) : ∀ n, i < n → smB f n + g i = smB g n + f i
  | 0, hi => by omega
  | n + 1, hi => by
    show smB f n + f n + g i = smB g n + g n + f i
    by_cases z : i = n
    · subst z
      rw [smB_congr (g := g) (fun j hj => h j (by omega))]
      omega
    · have := smB_upd h n (by omega)
      have := h n (Ne.symm z)
      omega
def b9 (a : Nat) (x : Int32) : Bool := x.toBitVec.getLsbD a
theorem b9_dj {a : Nat} {x t : Int32} (h : x &&& t = 0) (ht : b9 a t = true) : b9 a x = false := by
  have := congrArg (fun y => b9 a y) h
  have e : b9 a (x &&& t) = (b9 a x && b9 a t) := by unfold b9; rw [Int32.toBitVec_and, BitVec.getLsbD_and]
  have z : b9 a 0 = false := by unfold b9; exact BitVec.getLsbD_zero
  rw [e, ht, Bool.and_true, z] at this
  exact this
theorem b9_or (a : Nat) (x t : Int32) : b9 a (x ||| t) = (b9 a x || b9 a t) := by unfold b9; rw [Int32.toBitVec_or, BitVec.getLsbD_or]
theorem crowd {nd : Nat → Int32} (a : Nat) : ∀ (r p : Nat) (cn : Nat → Int32) (us m : Nat), mnF nd r p cn us ≤ m → smB (fun i => (b9 a (cn i)).toNat) us + smB (fun j => (b9 a (nd (p + j))).toNat) r ≤ m := by
  intro r
  induction r with
  | zero =>
    intro p cn us m h
    have h : us ≤ m := h
    have := smB_le (f := fun i => (b9 a (cn i)).toNat) (fun i => by cases b9 a (cn i) <;> decide) us
    show _ + 0 ≤ m
    omega
  | succ r ih =>
    intro p cn us m h
    rw [smB_hd]
    have e : smB (fun i => (b9 a (nd (p + (i + 1)))).toNat) r = smB (fun j => (b9 a (nd (p + 1 + j))).toNat) r := smB_congr (fun i _ => by rw [show p + (i + 1) = p + 1 + i by omega])
    rw [e]
    show _ + ((b9 a (nd (p + 0))).toNat + _) ≤ m
    rw [Nat.add_zero]
    rw [mnF_iff] at h
    rcases h with h | ⟨i, h1, h2, h3⟩
    · have := ih (p + 1) (upd cn us (nd p)) (us + 1) m h
      have e2 : smB (fun i => (b9 a (upd cn us (nd p) i)).toNat) (us + 1) = smB (fun i => (b9 a (cn i)).toNat) us + (b9 a (nd p)).toNat := by
        show smB (fun i => (b9 a (upd cn us (nd p) i)).toNat) us + (b9 a (upd cn us (nd p) us)).toNat = _
        rw [pk_us, smB_congr (g := fun i => (b9 a (cn i)).toNat) (fun i hi => by rw [pk_un (by omega)])]
      omega
    · have := ih (p + 1) (upd cn i (cn i ||| nd p)) us m h3
      have e2 := smB_upd (f := fun j => (b9 a (upd cn i (cn i ||| nd p) j)).toNat) (g := fun j => (b9 a (cn j)).toNat) (i := i) (fun j hj => by rw [pk_un hj]) us h1
      have e2 : _ + (b9 a (cn i)).toNat = _ + (b9 a (upd cn i (cn i ||| nd p) i)).toNat := e2
      rw [pk_us, b9_or] at e2
      cases ht : b9 a (nd p) with
      | false => rw [ht, Bool.or_false] at e2; show _ + (0 + _) ≤ m; omega
      | true =>
        rw [ht, b9_dj h2 ht] at e2
        have e2 : _ + 0 = _ + 1 := e2
        show _ + (1 + _) ≤ m
        omega
theorem mnF_nd {nd nd' : Nat → Int32} : ∀ (r p : Nat) (cn : Nat → Int32) (us : Nat), (∀ j, p ≤ j → j < p + r → nd j = nd' j) → mnF nd r p cn us = mnF nd' r p cn us := by
  intro r
  induction r with
  | zero => exact fun p cn us _ => rfl
  | succ r ih =>
    intro p cn us h
    have e : (fun cn' us' => mnF nd r (p + 1) cn' us') = (fun cn' us' => mnF nd' r (p + 1) cn' us') := by
      funext cn' us'
      exact ih (p + 1) cn' us' (fun j h1 h2 => h j (by omega) (by omega))
    show mnV (fun cn' us' => mnF nd r (p + 1) cn' us') (nd p) cn us us (mnF nd r (p + 1) (upd cn us (nd p)) (us + 1)) = mnV (fun cn' us' => mnF nd' r (p + 1) cn' us') (nd' p) cn us us (mnF nd' r (p + 1) (upd cn us (nd' p)) (us + 1))
    rw [e, h p (by omega) (by omega), ih (p + 1) _ _ (fun j h1 h2 => h j (by omega) (by omega))]
theorem pm_cnt {n : Nat} (hn : n ≤ 11) (ps : Nat → Int64) {a : Nat} (ha : a < n) : ∀ pc, pmN ps (lasN n a n) pc = smB (fun j => (b9 a (pnF n ps n (0 + j))).toNat) pc
  | 0 => rfl
  | i + 1 => by
    have ih := pm_cnt hn ps ha i
    show (if ps i &&& lasN n a n = 0 then pmN ps (lasN n a n) i else pmN ps (lasN n a n) i + 1) = smB (fun j => (b9 a (pnF n ps n (0 + j))).toNat) i + (b9 a (pnF n ps n (0 + i))).toNat
    have e : b9 a (pnF n ps n (0 + i)) = (ndO (ps i) n n).testBit a := by
      rw [Nat.zero_add, pnF_eq hn]
      unfold b9
      show (BitVec.ofNat 32 (ndO (ps i) n n)).getLsbD a = _
      rw [BitVec.getLsbD_ofNat, decide_eq_true (by omega)]
      rfl
    rw [e, ih]
    have em := meets_iff (ps i) hn ha
    by_cases q : ps i &&& lasN n a n = 0
    · rw [if_pos q, em.mp q]; rfl
    · rw [if_neg q]
      cases z : (ndO (ps i) n n).testBit a with
      | false => exact absurd (em.mpr z) q
      | true => rfl
theorem cr_le {n : Nat} (hn : n ≤ 11) (ps : Nat → Int64) (pc : Nat) : ∀ a, a ≤ n → crN n ps pc a ≤ mnF (pnF n ps n) pc 0 (fun _ => 0) 0
  | 0, _ => Nat.zero_le _
  | a + 1, h => by
    have ih := cr_le hn ps pc a (by omega)
    show max (crN n ps pc a) (pmN ps (lasN n a n) pc) ≤ _
    have := crowd (nd := pnF n ps n) a pc 0 (fun _ => 0) 0 _ (Nat.le_refl _)
    rw [← pm_cnt hn ps (show a < n by omega)] at this
    have : 0 + _ ≤ _ := this
    omega
/-- both sides tell the same number of classes -/
theorem cls_eq {n pc : Nat} {ps ps' : Nat → Int64} (hn : n ≤ 11) (hpc : pc ≤ 14) (h : ∀ j, j < pc → ps j = ps' j) (cn : Nat → Int32) : fwR n ps pc = clF (fun p => nI (ndO (ps' p) n n)) pc 0 cn 0 15 := by
  rw [clF_mn]
  have e1 : mnF (fun p => nI (ndO (ps' p) n n)) pc 0 cn 0 = mnF (pnF n ps n) pc 0 (fun _ => 0) 0 := by
    rw [mnF_nd (nd' := pnF n ps n) pc 0 cn 0 (fun j _ hj => by rw [pnF_eq hn, h j (by omega)])]
    have k := fun m => mnF_congr (nd := pnF n ps n) pc 0 cn (fun _ => 0) 0 m (fun i hi => by omega)
    have a1 := (k _).mp (Nat.le_refl _)
    have a2 := (k _).mpr (Nat.le_refl _)
    omega
  have hle := mnF_le (nd := pnF n ps n) pc 0 (fun _ => 0) 0
  have hcr := cr_le hn ps pc n (Nat.le_refl _)
  rw [e1]
  unfold fwR
  rw [show min pc 14 = pc by omega, fwN_mn (by omega) _ _ (by omega) hcr]
  omega
