/-! ===== what is developed: parts that have no line in common ===== -/
theorem bd_due {sh k m bc : Nat} {bN : Nat → Nat} (hm : m ≤ 31) : ∀ (z q : Nat), q + z ≤ 100 → bdN sh k bN m bc q z = -1 → ∀ p, q ≤ p → p < q + z → cvN sh k bN m p bc = dueN m p := by
  intro z
  induction z with
  | zero => intro q _ _ p h1 h2; omega
  | succ z ih =>
    intro q hq h p h1 h2
    have e : bdN sh k bN m bc q (z + 1) = if cvN sh k bN m q bc = dueN m q then bdN sh k bN m bc (q + 1) z else nI q := rfl
    rw [e] at h
    by_cases y : cvN sh k bN m q bc = dueN m q
    · rw [if_pos y] at h
      by_cases w : p = q
      · subst w; exact y
      · exact ih (q + 1) (by omega) h p (by omega) (by omega)
    · rw [if_neg y] at h
      exact absurd h (nI_m1 (by omega))
theorem cvI_sm (sh k : Nat) (bN : Nat → Nat) (m q b : Nat) : ∀ i, cvI sh k bN m q b i = smB (fun i => (decide (dfN (bN (b * 5 + lsN sh i)) (bN (b * 5 + leN sh k i)) m = q)).toNat) i
  | 0 => rfl
  | i + 1 => by
    show (if dfN (bN (b * 5 + lsN sh i)) (bN (b * 5 + leN sh k i)) m = q then cvI sh k bN m q b i + 1 else cvI sh k bN m q b i) = smB _ i + (decide (dfN (bN (b * 5 + lsN sh i)) (bN (b * 5 + leN sh k i)) m = q)).toNat
    rw [cvI_sm sh k bN m q b i]
    by_cases y : dfN (bN (b * 5 + lsN sh i)) (bN (b * 5 + leN sh k i)) m = q
    · rw [if_pos y, decide_eq_true y]; rfl
    · rw [if_neg y, decide_eq_false y]; rfl
theorem cvN_sm (sh k : Nat) (bN : Nat → Nat) (m q : Nat) : ∀ b, cvN sh k bN m q b = smB (fun b => cvI sh k bN m q b k) b
  | 0 => rfl
  | b + 1 => by show cvN sh k bN m q b + _ = smB (fun b => cvI sh k bN m q b k) b + _; rw [cvN_sm sh k bN m q b]
theorem smB_1 {f : Nat → Nat} {i : Nat} : ∀ {n : Nat}, i < n → f i ≤ smB f n
  | 0, h => by omega
  | n + 1, h => by
    show f i ≤ smB f n + f n
    by_cases z : i = n
    · subst z; omega
    · have := smB_1 (f := f) (n := n) (show i < n by omega); omega
theorem smB_2 {f : Nat → Nat} {i j : Nat} (hij : i < j) : ∀ {n : Nat}, j < n → f i + f j ≤ smB f n
  | 0, h => by omega
  | n + 1, h => by
    show f i + f j ≤ smB f n + f n
    by_cases z : j = n
    · subst z; have := smB_1 (f := f) hij; omega
    · have := smB_2 (f := f) hij (n := n) (by omega); omega
/-- a difference that is covered once is a difference of one line -/
theorem cv_uniq {sh k m q bc : Nat} {bN : Nat → Nat} (h : cvN sh k bN m q bc ≤ 1) {b i b' i' : Nat} (hb : b < bc) (hi : i < k) (hb' : b' < bc) (hi' : i' < k) (e : dfN (bN (b * 5 + lsN sh i)) (bN (b * 5 + leN sh k i)) m = q) (e' : dfN (bN (b' * 5 + lsN sh i')) (bN (b' * 5 + leN sh k i')) m = q) : b = b' ∧ i = i' := by
  rw [cvN_sm] at h
  have one : ∀ b i, i < k → dfN (bN (b * 5 + lsN sh i)) (bN (b * 5 + leN sh k i)) m = q → 1 ≤ cvI sh k bN m q b k := fun b i hi e => by
    rw [cvI_sm]
    have := smB_1 (f := fun i => (decide (dfN (bN (b * 5 + lsN sh i)) (bN (b * 5 + leN sh k i)) m = q)).toNat) hi
    have t : (decide (dfN (bN (b * 5 + lsN sh i)) (bN (b * 5 + leN sh k i)) m = q)).toNat = 1 := by rw [decide_eq_true e]; rfl
    omega
  have o1 := one b i hi e
  have o2 := one b' i' hi' e'
  have hbb : b = b' := by
    rcases Nat.lt_trichotomy b b' with z | z | z
    · have := smB_2 (f := fun b => cvI sh k bN m q b k) z hb'; omega
    · exact z
    · have := smB_2 (f := fun b => cvI sh k bN m q b k) z hb; omega
  subst hbb
  refine ⟨rfl, ?_⟩
  have h1 := smB_1 (f := fun b => cvI sh k bN m q b k) hb
  have h1 : cvI sh k bN m q b k ≤ _ := h1
  rw [cvI_sm] at h1
  have t : ∀ i, dfN (bN (b * 5 + lsN sh i)) (bN (b * 5 + leN sh k i)) m = q → (decide (dfN (bN (b * 5 + lsN sh i)) (bN (b * 5 + leN sh k i)) m = q)).toNat = 1 := fun i e => by rw [decide_eq_true e]; rfl
  have t1 := t i e
  have t2 := t i' e'
  rcases Nat.lt_trichotomy i i' with z | z | z
  · have := smB_2 (f := fun i => (decide (dfN (bN (b * 5 + lsN sh i)) (bN (b * 5 + leN sh k i)) m = q)).toNat) z hi'; omega
  · exact z
  · have := smB_2 (f := fun i => (decide (dfN (bN (b * 5 + lsN sh i)) (bN (b * 5 + leN sh k i)) m = q)).toNat) z hi; omega
theorem cv_pos {sh k m q bc : Nat} {bN : Nat → Nat} {b i : Nat} (hb : b < bc) (hi : i < k) (e : dfN (bN (b * 5 + lsN sh i)) (bN (b * 5 + leN sh k i)) m = q) : 1 ≤ cvN sh k bN m q bc := by
  rw [cvN_sm]
  have h1 := smB_1 (f := fun b => cvI sh k bN m q b k) hb
  have h1 : cvI sh k bN m q b k ≤ _ := h1
  rw [cvI_sm] at h1
  have := smB_1 (f := fun i => (decide (dfN (bN (b * 5 + lsN sh i)) (bN (b * 5 + leN sh k i)) m = q)).toNat) hi
  have t : (decide (dfN (bN (b * 5 + lsN sh i)) (bN (b * 5 + leN sh k i)) m = q)).toNat = 1 := by rw [decide_eq_true e]; rfl
  omega
theorem ah_lt {a b m : Nat} (hm : 1 ≤ m) : ahN a b m < m := by
  unfold ahN
  have h1 := Int.emod_nonneg ((a : Int) - b) (show (m : Int) ≠ 0 by omega)
  have h2 := Int.emod_lt_of_pos ((a : Int) - b) (show (0 : Int) < m by omega)
  omega
theorem df_half {a b m : Nat} (hm : 1 ≤ m) : dfN a b m ≤ m / 2 := by
  unfold dfN
  have h := ah_lt (a := a) (b := b) hm
  generalize ahN a b m = x at h ⊢
  by_cases z : x = 0
  · subst z; omega
  · rw [Nat.mod_eq_of_lt (show m - x < m by omega)]; omega
theorem ah_cast {a b m : Nat} (hm : 1 ≤ m) : (ahN a b m : Int) = ((a : Int) - b) % m := by
  unfold ahN
  exact Int.toNat_of_nonneg (Int.emod_nonneg _ (by omega))
theorem df_same {a b a' b' m : Nat} (hm : 1 ≤ m) (h : ∃ q : Int, (a : Int) - b = a' - b' + m * q) : ahN a b m = ahN a' b' m := by
  obtain ⟨q, h⟩ := h
  have : (ahN a b m : Int) = ahN a' b' m := by
    rw [ah_cast hm, ah_cast hm, h, Int.add_mul_emod_self_left]
  omega
theorem df_swap {a b a' b' m : Nat} (hm : 1 ≤ m) (h : ∃ q : Int, (a : Int) - b = b' - a' + m * q) : ahN a b m = (m - ahN a' b' m) % m := by
  obtain ⟨q, h⟩ := h
  have hy := ah_lt (a := a') (b := b') hm
  have e : (a' : Int) - b' = m * (((a' : Int) - b') / m) + ahN a' b' m := by
    rw [ah_cast hm]
    exact (Int.mul_ediv_add_emod _ _).symm
  generalize ((a' : Int) - b') / m = Q at e
  have : (ahN a b m : Int) = ((m - ahN a' b' m : Nat) : Int) % m := by
    rw [ah_cast hm, h]
    have e2 : (b' : Int) - a' + m * q = ((m - ahN a' b' m : Nat) : Int) + m * (q - Q - 1) := by
      rw [Int.mul_sub, Int.mul_sub, Int.mul_one]
      omega
    rw [e2, Int.add_mul_emod_self_left]
  have h9 : (((m - ahN a' b' m) % m : Nat) : Int) = ((m - ahN a' b' m : Nat) : Int) % m := Int.natCast_emod _ _
  omega
theorem df_eq {a b a' b' m : Nat} (hm : 1 ≤ m) (h : (∃ q : Int, (a : Int) - b = a' - b' + m * q) ∨ ∃ q : Int, (a : Int) - b = b' - a' + m * q) : dfN a b m = dfN a' b' m := by
  rcases h with h | h
  · unfold dfN; rw [df_same hm h]
  · unfold dfN
    rw [df_swap hm h]
    have hy := ah_lt (a := a') (b := b') hm
    generalize ahN a' b' m = y at hy ⊢
    by_cases z : y = 0
    · subst z; rw [Nat.sub_zero, Nat.mod_self, Nat.sub_zero, Nat.mod_self]
    · rw [Nat.mod_eq_of_lt (show m - y < m by omega), show m - (m - y) = y by omega, Nat.mod_eq_of_lt hy]; omega
theorem md_dif {u s u' s' n : Nat} (h : (u + s) % n = (u' + s') % n) : ∃ q : Int, (u : Int) + s = u' + s' + n * q := by
  have h1 := Nat.div_add_mod (u + s) n
  have h2 := Nat.div_add_mod (u' + s') n
  rw [h] at h1
  generalize (u + s) / n = Q at h1
  generalize (u' + s') / n = Q' at h2
  generalize (u' + s') % n = R at h1 h2
  refine ⟨(Q : Int) - Q', ?_⟩
  have e1 : ((n * Q : Nat) : Int) = (n : Int) * Q := Int.natCast_mul _ _
  have e2 : ((n * Q' : Nat) : Int) = (n : Int) * Q' := Int.natCast_mul _ _
  rw [Int.mul_sub]
  omega
theorem sp_lop {n sh k bc : Nat} {bN : Nat → Nat} (hS : shOk sh k) (hn : n ≤ 11) (hn1 : 1 ≤ n) (hun : unP (plN sh k) bc bN n) {b : Nat} (hb : b < bc) (s : Nat) : ndOk n (plN sh k) (fun j => (bN (b * 5 + j) + s) % n) ∧ spN n sh k bN b s = lopN n sh k (fun j => (bN (b * 5 + j) + s) % n) k := by
  have hlt : ∀ x : Nat, x % n < n := fun x => Nat.mod_lt _ (by omega)
  have hd : ∀ i, i < plN sh k → ∀ j, j < i → (bN (b * 5 + j) + s) % n ≠ (bN (b * 5 + i) + s) % n := fun i hi j hj e => by
    refine hun b hb i hi j hj ?_
    obtain ⟨q, hq⟩ := md_dif e
    have : ((bN (b * 5 + j) : Int)) = bN (b * 5 + i) + n * q := by omega
    have h2 : ((bN (b * 5 + j) % n : Nat) : Int) = (bN (b * 5 + i) % n : Nat) := by
      rw [Int.natCast_emod, Int.natCast_emod, this, Int.add_mul_emod_self_left]
    omega
  refine ⟨⟨fun i _ => hlt _, hd⟩, ?_⟩
  unfold spN
  exact lpN_lop hS hn hn1 (fun i _ => ⟨rfl, hlt _⟩) hd
theorem sp_dj {n sh k bc : Nat} {bN : Nat → Nat} (hS : shOk sh k) (hn : n ≤ 11) (hn3 : 3 ≤ n) (hbd : bdN sh k bN n bc 0 (n / 2 + 1) = -1) (hun : unP (plN sh k) bc bN n) {b s b' s' : Nat} (hb : b < bc) (hs : s < n) (hb' : b' < bc) (hs' : s' < n) (hne : ¬ (b = b' ∧ s = s')) : spN n sh k bN b s &&& spN n sh k bN b' s' = 0 := by
  obtain ⟨n1, e1⟩ := sp_lop hS hn (by omega) hun hb s
  obtain ⟨n2, e2⟩ := sp_lop hS hn (by omega) hun hb' s'
  rw [e1, e2, dj_iff]
  intro l hl
  cases hl2 : btL (lopN n sh k (fun j => (bN (b' * 5 + j) + s') % n) k) l with
  | false => rfl
  | true =>
    exfalso
    obtain ⟨i, hi, f1⟩ := (lop_bit hS hn n1 l k (Nat.le_refl _)).mp hl
    obtain ⟨i', hi', f2⟩ := (lop_bit hS hn n2 l k (Nat.le_refl _)).mp hl2
    obtain ⟨g1, g2, g3, g4⟩ := lop_ln hS hn n1 hi
    obtain ⟨g1', g2', g3', g4'⟩ := lop_ln hS hn n2 hi'
    have hinj := ln_inj hn g2 g3 g4 g2' g3' g4' (f1.trans f2.symm)
    have due : ∀ q, q ≤ n / 2 → cvN sh k bN n q bc = dueN n q := fun q hq => bd_due (by omega) _ 0 (by omega) hbd q (Nat.zero_le _) (by omega)
    have hd := df_half (a := bN (b * 5 + lsN sh i)) (b := bN (b * 5 + leN sh k i)) (m := n) (by omega)
    have hdue := due _ hd
    have hpos := cv_pos (sh := sh) (k := k) (m := n) (bN := bN) hb hi rfl
    have hdd : dfN (bN (b * 5 + lsN sh i)) (bN (b * 5 + leN sh k i)) n = dfN (bN (b' * 5 + lsN sh i')) (bN (b' * 5 + leN sh k i')) n := by
      refine df_eq (by omega) ?_
      rcases hinj with ⟨a1, a2⟩ | ⟨a1, a2⟩
      · obtain ⟨q1, h1⟩ := md_dif a1
        obtain ⟨q2, h2⟩ := md_dif a2
        exact Or.inl ⟨q1 - q2, by rw [Int.mul_sub]; omega⟩
      · obtain ⟨q1, h1⟩ := md_dif a1
        obtain ⟨q2, h2⟩ := md_dif a2
        exact Or.inr ⟨q1 - q2, by rw [Int.mul_sub]; omega⟩
    have hle1 : cvN sh k bN n (dfN (bN (b * 5 + lsN sh i)) (bN (b * 5 + leN sh k i)) n) bc ≤ 1 := by rw [hdue]; unfold dueN; split <;> omega
    obtain ⟨rfl, rfl⟩ := cv_uniq hle1 hb hi hb' hi' rfl hdd.symm
    have hnd : ¬ (dfN (bN (b * 5 + lsN sh i)) (bN (b * 5 + leN sh k i)) n = 0 ∨ 2 * dfN (bN (b * 5 + lsN sh i)) (bN (b * 5 + leN sh k i)) n = n) := fun z => by
      unfold dueN at hdue
      rw [if_pos z] at hdue
      omega
    rcases hinj with ⟨a1, a2⟩ | ⟨a1, a2⟩
    · obtain ⟨q1, h1⟩ := md_dif a1
      apply hne
      refine ⟨rfl, ?_⟩
      have h3 : (s : Int) = s' + n * q1 := by omega
      have h4 : ((s % n : Nat) : Int) = (s' % n : Nat) := by rw [Int.natCast_emod, Int.natCast_emod, h3, Int.add_mul_emod_self_left]
      rw [Nat.mod_eq_of_lt hs, Nat.mod_eq_of_lt hs'] at h4
      omega
    · obtain ⟨q1, h1⟩ := md_dif a1
      obtain ⟨q2, h2⟩ := md_dif a2
      generalize bN (b * 5 + lsN sh i) = u at *
      generalize bN (b * 5 + leN sh k i) = v at *
      have hsw := df_swap (a := u) (b := v) (a' := u) (b' := v) (m := n) (by omega) ⟨q1 - q2, by rw [Int.mul_sub]; omega⟩
      apply hnd
      unfold dfN
      have hx := ah_lt (a := u) (b := v) (m := n) (by omega)
      generalize ahN u v n = x at hsw hx ⊢
      by_cases z : x = 0
      · subst z; left; omega
      · rw [Nat.mod_eq_of_lt (show n - x < n by omega)] at hsw ⊢
        right; omega
theorem dvP_get (n sh k : Nat) (bN : Nat → Nat) (ps : Nat → Int64) (b : Nat) : ∀ s j, dvP n sh k bN ps b s j = if b * n ≤ j ∧ j < b * n + s then spN n sh k bN b (j - b * n) else ps j
  | 0, j => by rw [if_neg (by omega)]; rfl
  | s + 1, j => by
    show vp_updL (dvP n sh k bN ps b s) (b * n + s) (spN n sh k bN b s) j = _
    by_cases z : j = b * n + s
    · subst z; rw [pk_uLs, if_pos (by omega), show b * n + s - b * n = s by omega]
    · rw [pk_uLn z, dvP_get n sh k bN ps b s j]
      by_cases y : b * n ≤ j ∧ j < b * n + s
      · rw [if_pos y, if_pos (by omega)]
      · rw [if_neg y, if_neg (by omega)]
theorem dvPs_get (n sh k : Nat) (bN : Nat → Nat) (ps : Nat → Int64) : ∀ b j, j < b * n → ∃ u, u < b ∧ ∃ s, s < n ∧ j = u * n + s ∧ dvPs n sh k bN ps b j = spN n sh k bN u s
  | 0, j, h => by rw [Nat.zero_mul] at h; omega
  | b + 1, j, h => by
    rw [Nat.succ_mul] at h
    show ∃ u, u < b + 1 ∧ ∃ s, s < n ∧ j = u * n + s ∧ dvP n sh k bN (dvPs n sh k bN ps b) b n j = spN n sh k bN u s
    rw [dvP_get]
    by_cases y : b * n ≤ j ∧ j < b * n + n
    · rw [if_pos y]
      exact ⟨b, by omega, j - b * n, by omega, by omega, rfl⟩
    · rw [if_neg y]
      obtain ⟨u, h1, s, h2, h3, h4⟩ := dvPs_get n sh k bN ps b j (by omega)
      exact ⟨u, by omega, s, h2, h3, h4⟩
theorem dvG_bit (n sh k : Nat) (bN : Nat → Nat) (g : Int64) (b l : Nat) : ∀ s, btL (dvG n sh k bN g b s) l = true ↔ btL g l = true ∨ ∃ t, t < s ∧ btL (spN n sh k bN b t) l = true
  | 0 => ⟨Or.inl, fun h => by rcases h with h | ⟨t, h, -⟩; exact h; omega⟩
  | s + 1 => by
    show btL (dvG n sh k bN g b s ||| spN n sh k bN b s) l = true ↔ _
    rw [btL_or, Bool.or_eq_true, dvG_bit n sh k bN g b l s]
    constructor
    · rintro ((h | ⟨t, h1, h2⟩) | h)
      · exact Or.inl h
      · exact Or.inr ⟨t, by omega, h2⟩
      · exact Or.inr ⟨s, by omega, h⟩
    · rintro (h | ⟨t, h1, h2⟩)
      · exact Or.inl (Or.inl h)
      · by_cases z : t = s
        · subst z; exact Or.inr h2
        · exact Or.inl (Or.inr ⟨t, by omega, h2⟩)
theorem dvGs_bit (n sh k : Nat) (bN : Nat → Nat) (l : Nat) : ∀ b, btL (dvGs n sh k bN b) l = true ↔ ∃ u, u < b ∧ ∃ t, t < n ∧ btL (spN n sh k bN u t) l = true
  | 0 => by
    show btL 0 l = true ↔ _
    rw [btL_0]
    exact ⟨(fun h => (by cases h)), fun ⟨u, h, _⟩ => by omega⟩
  | b + 1 => by
    show btL (dvG n sh k bN (dvGs n sh k bN b) b n) l = true ↔ _
    rw [dvG_bit, dvGs_bit n sh k bN l b]
    constructor
    · rintro (⟨u, h1, h2⟩ | ⟨t, h1, h2⟩)
      · exact ⟨u, by omega, h2⟩
      · exact ⟨b, by omega, t, h1, h2⟩
    · rintro ⟨u, h1, t, h2, h3⟩
      by_cases z : u = b
      · subst z; exact Or.inr ⟨t, h2, h3⟩
      · exact Or.inl ⟨u, by omega, t, h2, h3⟩
/-- the parts of a net: parts of its shape, of its lines, no line in two -/
def ptsOk (n : Nat) (g : Int64) (sh k pc : Nat) (ps : Nat → Int64) : Prop := (∀ i, i < pc → ptP n sh k (ps i) ∧ sbL (ps i) g) ∧ ∀ i, i < pc → ∀ j, j < i → ps j &&& ps i = 0
theorem dv_ok {n sh k bc : Nat} {bN : Nat → Nat} {ps : Nat → Int64} (hS : shOk sh k) (hn : n ≤ 11) (hn3 : 3 ≤ n) (hbd : bdN sh k bN n bc 0 (n / 2 + 1) = -1) (hun : unP (plN sh k) bc bN n) : ok55 (dvGs n sh k bN bc) ∧ ptsOk n (dvGs n sh k bN bc) sh k (bc * n) (dvPs n sh k bN ps bc) := by
  refine ⟨fun l hl => ?_, fun i hi => ?_, fun i hi j hj => ?_⟩
  · cases e : btL (dvGs n sh k bN bc) l with
    | false => rfl
    | true =>
      obtain ⟨u, hu, t, ht, h⟩ := (dvGs_bit n sh k bN l bc).mp e
      obtain ⟨n1, e1⟩ := sp_lop hS hn (by omega) hun hu t
      rw [e1, lop_55 hS hn n1 l hl] at h
      cases h
  · obtain ⟨u, h1, s, h2, h3, h4⟩ := dvPs_get n sh k bN ps bc i hi
    obtain ⟨n1, e1⟩ := sp_lop hS hn (by omega) hun h1 s
    rw [h4]
    exact ⟨⟨_, n1, e1⟩, fun l hl => (dvGs_bit n sh k bN l bc).mpr ⟨u, h1, s, h2, hl⟩⟩
  · obtain ⟨u, h1, s, h2, h3, h4⟩ := dvPs_get n sh k bN ps bc i hi
    obtain ⟨u', h1', s', h2', h3', h4'⟩ := dvPs_get n sh k bN ps bc j (by omega)
    rw [h4, h4']
    exact sp_dj hS hn hn3 hbd hun h1' h2' h1 h2 (fun z => by rw [z.1, z.2] at h3'; omega)
