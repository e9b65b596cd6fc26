/-! ===== rows as lists, in order ===== -/
def sg (f : Nat → Int64) : Nat → Nat → List Int64
  | _, 0 => []
  | a, m + 1 => f a :: sg f (a + 1) m
theorem sg_len (f : Nat → Int64) : ∀ m a, (sg f a m).length = m
  | 0, _ => rfl
  | m + 1, a => congrArg (· + 1) (sg_len f m (a + 1))
theorem sg_app (f : Nat → Int64) : ∀ m a p, sg f a (m + p) = sg f a m ++ sg f (a + m) p
  | 0, a, p => by rw [Nat.zero_add]; rfl
  | m + 1, a, p => by
    rw [show m + 1 + p = (m + p) + 1 by omega]
    show f a :: sg f (a + 1) (m + p) = f a :: (sg f (a + 1) m ++ sg f (a + (m + 1)) p)
    rw [sg_app f m (a + 1) p, show a + 1 + m = a + (m + 1) by omega]
theorem sg_congr {f g : Nat → Int64} : ∀ m a, (∀ i, a ≤ i → i < a + m → f i = g i) → sg f a m = sg g a m
  | 0, _, _ => rfl
  | m + 1, a, h => by
    show f a :: sg f (a + 1) m = g a :: sg g (a + 1) m
    rw [h a (by omega) (by omega), sg_congr m (a + 1) (fun i h1 h2 => h i (by omega) (by omega))]
theorem sg_mem {f : Nat → Int64} {y : Int64} : ∀ {m a : Nat}, y ∈ sg f a m ↔ ∃ i, a ≤ i ∧ i < a + m ∧ f i = y
  | 0, a => ⟨fun h => (by cases h), fun ⟨i, h1, h2, _⟩ => by omega⟩
  | m + 1, a => by
    show y ∈ f a :: sg f (a + 1) m ↔ _
    rw [List.mem_cons, sg_mem]
    constructor
    · rintro (h | ⟨i, h1, h2, h3⟩)
      · exact ⟨a, by omega, by omega, h.symm⟩
      · exact ⟨i, by omega, by omega, h3⟩
    · rintro ⟨i, h1, h2, h3⟩
      by_cases z : i = a
      · subst z; exact Or.inl h3.symm
      · exact Or.inr ⟨i, by omega, by omega, h3⟩
theorem sg_rg (f : Nat → Int64) : ∀ c, sg f 0 c = (List.range c).map f
  | 0 => rfl
  | c + 1 => by
    rw [List.range_succ, List.map_append, ← sg_rg f c, sg_app f c 0 1, Nat.zero_add]
    rfl
abbrev soL (l : List Int64) : Prop := l.Pairwise (fun a b => ky64 a ≤ ky64 b)
theorem mg_ok (A : Nat → Int64) (mid hi : Nat) : ∀ (z k x y : Nat) (B : Nat → Int64), x ≤ mid → y ≤ hi → z = (mid - x) + (hi - y) → (∀ j, j < k → mgB A mid hi z k x y B j = B j) ∧ (sg (mgB A mid hi z k x y B) k z).Perm (sg A x (mid - x) ++ sg A y (hi - y)) ∧ (soL (sg A x (mid - x)) → soL (sg A y (hi - y)) → soL (sg (mgB A mid hi z k x y B) k z)) := by
  intro z
  induction z with
  | zero =>
    intro k x y B hx hy hz
    have e1 : mid - x = 0 := by omega
    have e2 : hi - y = 0 := by omega
    rw [e1, e2]
    exact ⟨fun _ _ => rfl, List.Perm.refl _, fun _ _ => List.Pairwise.nil⟩
  | succ z ih =>
    intro k x y B hx hy hz
    have e : mgB A mid hi (z + 1) k x y B = if y = hi ∨ (x < mid ∧ cfN (A x) (A y) = true) then mgB A mid hi z (k + 1) (x + 1) y (vp_updL B k (A x)) else mgB A mid hi z (k + 1) x (y + 1) (vp_updL B k (A y)) := rfl
    rw [e]
    by_cases q : y = hi ∨ (x < mid ∧ cfN (A x) (A y) = true)
    · rw [if_pos q]
      have hxm : x < mid := by omega
      obtain ⟨i1, i2, i3⟩ := ih (k + 1) (x + 1) y (vp_updL B k (A x)) (by omega) hy (by omega)
      have ek : mgB A mid hi z (k + 1) (x + 1) y (vp_updL B k (A x)) k = A x := by rw [i1 k (by omega), pk_uLs]
      have ex : sg A x (mid - x) = A x :: sg A (x + 1) (mid - (x + 1)) := by rw [show mid - x = (mid - (x + 1)) + 1 by omega]; rfl
      refine ⟨fun j hj => by rw [i1 j (by omega), pk_uLn (by omega)], ?_, fun s1 s2 => ?_⟩
      · show (mgB A mid hi z (k + 1) (x + 1) y (vp_updL B k (A x)) k :: sg (mgB A mid hi z (k + 1) (x + 1) y (vp_updL B k (A x))) (k + 1) z).Perm _
        rw [ek, ex]
        exact List.Perm.cons _ i2
      · show soL (mgB A mid hi z (k + 1) (x + 1) y (vp_updL B k (A x)) k :: sg (mgB A mid hi z (k + 1) (x + 1) y (vp_updL B k (A x))) (k + 1) z)
        rw [ek]
        rw [ex] at s1
        obtain ⟨s3, s4⟩ := List.pairwise_cons.mp s1
        refine List.pairwise_cons.mpr ⟨fun b hb => ?_, i3 s4 s2⟩
        rcases List.mem_append.mp (i2.mem_iff.mp hb) with hb | hb
        · exact s3 b hb
        · rcases q with q | ⟨-, q⟩
          · rw [show hi - y = 0 by omega] at hb; cases hb
          · have h1 := (cfN_ky _ _).mp q
            by_cases yh : y = hi
            · rw [show hi - y = 0 by omega] at hb; cases hb
            · have ey : sg A y (hi - y) = A y :: sg A (y + 1) (hi - (y + 1)) := by rw [show hi - y = (hi - (y + 1)) + 1 by omega]; rfl
              rw [ey] at hb s2
              rcases List.mem_cons.mp hb with hb | hb
              · rw [hb]; omega
              · have := (List.pairwise_cons.mp s2).1 b hb; omega
    · rw [if_neg q]
      have hyh : y < hi := by omega
      obtain ⟨i1, i2, i3⟩ := ih (k + 1) x (y + 1) (vp_updL B k (A y)) hx (by omega) (by omega)
      have ek : mgB A mid hi z (k + 1) x (y + 1) (vp_updL B k (A y)) k = A y := by rw [i1 k (by omega), pk_uLs]
      have ey : sg A y (hi - y) = A y :: sg A (y + 1) (hi - (y + 1)) := by rw [show hi - y = (hi - (y + 1)) + 1 by omega]; rfl
      refine ⟨fun j hj => by rw [i1 j (by omega), pk_uLn (by omega)], ?_, fun s1 s2 => ?_⟩
      · show (mgB A mid hi z (k + 1) x (y + 1) (vp_updL B k (A y)) k :: sg (mgB A mid hi z (k + 1) x (y + 1) (vp_updL B k (A y))) (k + 1) z).Perm _
        rw [ek, ey]
        exact (List.Perm.cons _ i2).trans List.perm_middle.symm
      · show soL (mgB A mid hi z (k + 1) x (y + 1) (vp_updL B k (A y)) k :: sg (mgB A mid hi z (k + 1) x (y + 1) (vp_updL B k (A y))) (k + 1) z)
        rw [ek]
        rw [ey] at s2
        obtain ⟨s3, s4⟩ := List.pairwise_cons.mp s2
        refine List.pairwise_cons.mpr ⟨fun b hb => ?_, i3 s1 s4⟩
        rcases List.mem_append.mp (i2.mem_iff.mp hb) with hb | hb
        · by_cases xm : x = mid
          · rw [show mid - x = 0 by omega] at hb; cases hb
          · have h1 : ¬ cfN (A x) (A y) = true := fun z => q (Or.inr ⟨by omega, z⟩)
            rw [cfN_ky] at h1
            have ex : sg A x (mid - x) = A x :: sg A (x + 1) (mid - (x + 1)) := by rw [show mid - x = (mid - (x + 1)) + 1 by omega]; rfl
            rw [ex] at hb s1
            rcases List.mem_cons.mp hb with hb | hb
            · rw [hb]; omega
            · have := (List.pairwise_cons.mp s1).1 b hb; omega
        · exact s3 b hb
theorem cpR_get (A B : Nat → Int64) (lo : Nat) : ∀ m j, cpR A B lo m j = if lo ≤ j ∧ j < lo + m then B j else A j
  | 0, j => by rw [if_neg (by omega)]; rfl
  | m + 1, j => by
    show vp_updL (cpR A B lo m) (lo + m) (B (lo + m)) j = _
    by_cases z : j = lo + m
    · subst z; rw [pk_uLs, if_pos (by omega)]
    · rw [pk_uLn z, cpR_get A B lo m j]
      by_cases y : lo ≤ j ∧ j < lo + m
      · rw [if_pos y, if_pos (by omega)]
      · rw [if_neg y, if_neg (by omega)]
theorem srF_ok : ∀ (t lo hi : Nat) (w : (Nat → Int64) × (Nat → Int64)), lo ≤ hi → hi - lo ≤ 2 ^ t → (∀ j, j < lo ∨ hi ≤ j → (srF t lo hi w).1 j = w.1 j) ∧ (sg (srF t lo hi w).1 lo (hi - lo)).Perm (sg w.1 lo (hi - lo)) ∧ soL (sg (srF t lo hi w).1 lo (hi - lo)) := by
  have small : ∀ (f : Nat → Int64) (a m : Nat), m < 2 → soL (sg f a m) := fun f a m h => by
    match m, h with
    | 0, _ => exact List.Pairwise.nil
    | 1, _ => exact List.pairwise_cons.mpr ⟨fun b hb => (by cases hb), List.Pairwise.nil⟩
  intro t
  induction t with
  | zero =>
    intro lo hi w h1 h2
    exact ⟨fun _ _ => rfl, List.Perm.refl _, small _ _ _ (by rw [Nat.pow_zero] at h2; omega)⟩
  | succ t ih =>
    intro lo hi w h1 h2
    rw [Nat.pow_succ] at h2
    by_cases q : hi - lo < 2
    · have e : srF (t + 1) lo hi w = w := if_pos q
      rw [e]
      exact ⟨fun _ _ => rfl, List.Perm.refl _, small _ _ _ q⟩
    · have e : srF (t + 1) lo hi w = (cpR (srF t ((lo + hi) / 2) hi (srF t lo ((lo + hi) / 2) w)).1 (mgB (srF t ((lo + hi) / 2) hi (srF t lo ((lo + hi) / 2) w)).1 ((lo + hi) / 2) hi (hi - lo) lo lo ((lo + hi) / 2) (srF t ((lo + hi) / 2) hi (srF t lo ((lo + hi) / 2) w)).2) lo (hi - lo), mgB (srF t ((lo + hi) / 2) hi (srF t lo ((lo + hi) / 2) w)).1 ((lo + hi) / 2) hi (hi - lo) lo lo ((lo + hi) / 2) (srF t ((lo + hi) / 2) hi (srF t lo ((lo + hi) / 2) w)).2) := if_neg q
      rw [e]
      generalize hmid : (lo + hi) / 2 = mid
      have m1 : lo < mid := by omega
      have m2 : mid < hi := by omega
      obtain ⟨a1, a2, a3⟩ := ih lo mid w (by omega) (by omega)
      obtain ⟨c1, c2, c3⟩ := ih mid hi (srF t lo mid w) (by omega) (by omega)
      generalize hw1 : srF t lo mid w = w1 at *
      generalize hw2 : srF t mid hi w1 = w2 at *
      have l1 : sg w2.1 lo (mid - lo) = sg w1.1 lo (mid - lo) := sg_congr _ _ (fun i _ i2 => c1 i (by omega))
      have l2 : sg w1.1 mid (hi - mid) = sg w.1 mid (hi - mid) := sg_congr _ _ (fun i i1 _ => a1 i (by omega))
      obtain ⟨g1, g2, g3⟩ := mg_ok w2.1 mid hi (hi - lo) lo lo mid w2.2 (by omega) (by omega) (by omega)
      have es : ∀ f : Nat → Int64, sg f lo (hi - lo) = sg f lo (mid - lo) ++ sg f mid (hi - mid) := fun f => by
        rw [show hi - lo = (mid - lo) + (hi - mid) by omega, sg_app, show lo + (mid - lo) = mid by omega]
      have ec : sg (cpR w2.1 (mgB w2.1 mid hi (hi - lo) lo lo mid w2.2) lo (hi - lo)) lo (hi - lo) = sg (mgB w2.1 mid hi (hi - lo) lo lo mid w2.2) lo (hi - lo) := sg_congr _ _ (fun i i1 i2 => by rw [cpR_get, if_pos ⟨i1, i2⟩])
      refine ⟨fun j hj => ?_, ?_, ?_⟩
      · show cpR w2.1 _ lo (hi - lo) j = w.1 j
        rw [cpR_get, if_neg (by omega), c1 j (by omega), a1 j (by omega)]
      · show (sg (cpR w2.1 _ lo (hi - lo)) lo (hi - lo)).Perm _
        rw [ec]
        refine g2.trans ?_
        rw [es w.1, l1]
        exact List.Perm.append a2 (c2.trans (by rw [l2]))
      · show soL (sg (cpR w2.1 _ lo (hi - lo)) lo (hi - lo))
        rw [ec]
        exact g3 (by rw [l1]; exact a3) c3
theorem wrL_ge : ∀ (l : List Int64) (f : Nat → Int64) (p j : Nat), j < p → wrL f p l j = f j
  | [], _, _, _, _ => rfl
  | x :: t, f, p, j, h => by
    show wrL (vp_updL f p x) (p + 1) t j = f j
    rw [wrL_ge t _ (p + 1) j (by omega), pk_uLn (by omega)]
theorem sg_wrL : ∀ (l : List Int64) (f : Nat → Int64) (p : Nat), sg (wrL f p l) p l.length = l
  | [], _, _ => rfl
  | x :: t, f, p => by
    show wrL (vp_updL f p x) (p + 1) t p :: sg (wrL (vp_updL f p x) (p + 1) t) (p + 1) t.length = x :: t
    rw [wrL_ge t _ (p + 1) p (by omega), pk_uLs, sg_wrL t]
/-! all parts of a shape, in order -/
def inS (x : Int64) : List Int64 → List Int64
  | [] => [x]
  | y :: t => if ky64 x ≤ ky64 y then x :: y :: t else y :: inS x t
def soS : List Int64 → List Int64
  | [] => []
  | x :: t => inS x (soS t)
theorem inS_perm (x : Int64) : ∀ l, (inS x l).Perm (x :: l)
  | [] => List.Perm.refl _
  | y :: t => by
    show (if ky64 x ≤ ky64 y then x :: y :: t else y :: inS x t).Perm _
    split
    · exact List.Perm.refl _
    · exact (List.Perm.cons y (inS_perm x t)).trans (List.Perm.swap x y t)
theorem inS_so (x : Int64) : ∀ l, soL l → soL (inS x l)
  | [], _ => List.pairwise_cons.mpr ⟨fun b hb => (by cases hb), List.Pairwise.nil⟩
  | y :: t, h => by
    obtain ⟨h1, h2⟩ := List.pairwise_cons.mp h
    show soL (if ky64 x ≤ ky64 y then x :: y :: t else y :: inS x t)
    by_cases q : ky64 x ≤ ky64 y
    · rw [if_pos q]
      refine List.pairwise_cons.mpr ⟨fun b hb => ?_, h⟩
      rcases List.mem_cons.mp hb with e | e
      · rw [e]; exact q
      · exact Nat.le_trans q (h1 b e)
    · rw [if_neg q]
      refine List.pairwise_cons.mpr ⟨fun b hb => ?_, inS_so x t h2⟩
      rcases List.mem_cons.mp ((inS_perm x t).mem_iff.mp hb) with e | e
      · rw [e]; omega
      · exact h1 b e
theorem soS_perm : ∀ l, (soS l).Perm l
  | [] => List.Perm.refl _
  | x :: t => (inS_perm x _).trans (List.Perm.cons x (soS_perm t))
theorem soS_so : ∀ l, soL (soS l)
  | [] => List.Pairwise.nil
  | x :: t => inS_so x _ (soS_so t)
theorem so_eq {l m : List Int64} (h : l.Perm m) (h1 : soL l) (h2 : soL m) : l = m := srt_uniq ky64 (fun _ _ => ky64_inj) l m h h1 h2
def apS (n sh k : Nat) : List Int64 := soS (apL n sh k)
theorem apS_mem {n sh k : Nat} (hS : shOk sh k) (hn : n ≤ 11) (y : Int64) : y ∈ apS n sh k ↔ ptP n sh k y := (soS_perm _).mem_iff.trans (ap_mem hS hn y)
theorem apS_nd {n sh k : Nat} (hS : shOk sh k) (hn : n ≤ 11) : (apS n sh k).Nodup := (soS_perm _).nodup_iff.mpr (ap_nd hS hn)
theorem apS_len {n sh k : Nat} : (apS n sh k).length = (apL n sh k).length := (soS_perm _).length_eq
/-- the catalog's rows are the parts that lie in the network, in order -/
theorem cat_sg {c R : Nat} {f : Nat → Int64} {sN : Nat → Nat} {n sh k : Nat} {g : Int64} {pl : Nat} {cN : Nat → Nat} (h : catOk c R f sN n sh k g pl cN) (hn : n ≠ 0) : sg f 0 c = (apS n sh k).filter (inG g) ∧ sN = mkN f c ∧ c ≤ R := by
  obtain ⟨h1, h2, h3, h4, h5⟩ := h
  rcases h5 with h5 | h5
  · exact absurd h5.1 hn
  · obtain ⟨k1, k2, k3, k4, k5, ⟨f0, k6, k7⟩, k8⟩ := h5
    refine ⟨?_, k8, h2⟩
    obtain ⟨s1, s2⟩ := sort_ok c f0
    rw [← k6] at s1 s2
    have e0 : (List.range c).map f0 = paL n sh k g := by rw [k5]; exact list_rg (fun j hj => k7 j (by rw [k5]; exact hj))
    rw [sg_rg]
    refine so_eq ?_ (srt_list s1) ((soS_so _).filter _)
    refine (ct_perm s2).trans ?_
    rw [e0, pa_ap g k2 k3]
    exact ((soS_perm _).filter _).symm
/-- the reference's rows are all parts, in order -/
theorem ly_sg {n sh k : Nat} (e : G4) (hS : shOk sh k) (hn : n ≤ 11) : sg (lyS e (apL n sh k).length (apL n sh k)).1 0 (apL n sh k).length = apS n sh k := by
  have hl : (apL n sh k).length ≤ 27720 := Nat.le_trans (ap_U hS hn) (apU_27 hS hn)
  unfold lyS
  obtain ⟨-, s2, s3⟩ := srF_ok 15 0 (apL n sh k).length (wrL (if e.1 < (apL n sh k).length then (fun _ => 0) else e.2.1) 0 (apL n sh k), if e.1 < (apL n sh k).length then (fun _ => 0) else e.2.2.2.1) (Nat.zero_le _) (by
    show (apL n sh k).length - 0 ≤ 32768
    omega)
  rw [Nat.sub_zero] at s2 s3
  refine so_eq (s2.trans ?_) s3 (soS_so _)
  show (sg (wrL _ 0 (apL n sh k)) 0 (apL n sh k).length).Perm _
  rw [sg_wrL]
  exact (soS_perm _).symm
/-! ===== where the rows of a least line begin ===== -/
theorem ky_ll {a b : Int64} (ha : ¬ a = 0) (hb : ¬ b = 0) (h : ky64 a ≤ ky64 b) : llN a ≤ llN b := by
  rcases Nat.lt_or_ge (llN b) (llN a) with q | q
  · exfalso
    obtain ⟨b1, b2⟩ := ll_bit hb
    obtain ⟨a1, a2⟩ := ll_bit ha
    have hlo : isLo (b ^^^ a) (llN b) := (isLo_iff (btL_lt b1)).mpr ⟨by rw [btL_xor, b1, a2 _ q]; rfl, fun j hj => by rw [btL_xor, b2 j hj, a2 j (by omega)]; rfl⟩
    have := (cfN_ky b a).mp ((cfN_lo hlo).trans b1)
    omega
  · exact q
theorem skA_ok {f : Nat → Int64} {c l : Nat} (hm : ∀ i j, i ≤ j → j < c → llN (f i) ≤ llN (f j)) : ∀ z a, a + z = c → (∀ i, i < a → llN (f i) < l) → a ≤ skA f l z a ∧ skA f l z a ≤ c ∧ ∀ i, i < c → (i < skA f l z a ↔ llN (f i) < l) := by
  intro z
  induction z with
  | zero => exact fun a h1 h2 => ⟨Nat.le_refl _, by show a ≤ c; omega, fun i hi => ⟨fun _ => h2 i (by omega), fun _ => by show i < a; omega⟩⟩
  | succ z ih =>
    intro a h1 h2
    have e : skA f l (z + 1) a = if llN (f a) < l then skA f l z (a + 1) else a := rfl
    rw [e]
    by_cases q : llN (f a) < l
    · rw [if_pos q]
      obtain ⟨i1, i2, i3⟩ := ih (a + 1) (by omega) (fun i hi => by
        by_cases y : i = a
        · subst y; exact q
        · exact h2 i (by omega))
      exact ⟨by omega, i2, i3⟩
    · rw [if_neg q]
      refine ⟨Nat.le_refl _, by omega, fun i hi => ⟨fun h => h2 i h, fun h => ?_⟩⟩
      rcases Nat.lt_or_ge i a with y | y
      · exact y
      · have := hm a i y hi; omega
theorem mkN_ok {f : Nat → Int64} {c : Nat} (hm : ∀ i j, i ≤ j → j < c → llN (f i) ≤ llN (f j)) : ∀ l, mkN f c l ≤ c ∧ ∀ i, i < c → (i < mkN f c l ↔ llN (f i) < l)
  | 0 => (skA_ok hm c 0 (by omega) (fun i hi => by omega)).2
  | l + 1 => by
    obtain ⟨h1, h2⟩ := mkN_ok hm l
    exact (skA_ok hm (c - mkN f c l) (mkN f c l) (by omega) (fun i hi => by have := (h2 i (by omega)).mp hi; omega)).2
theorem mk_mono {f : Nat → Int64} {c : Nat} (h : soL (sg f 0 c)) (h0 : ∀ i, i < c → ¬ f i = 0) : ∀ i j, i ≤ j → j < c → llN (f i) ≤ llN (f j) := by
  intro i j hij hj
  by_cases z : i = j
  · subst z; exact Nat.le_refl _
  · refine ky_ll (h0 i (by omega)) (h0 j hj) ?_
    rw [show c = i + (c - i) by omega, sg_app] at h
    obtain ⟨-, h2, -⟩ := List.pairwise_append.mp h
    rw [show c - i = (c - i - 1) + 1 by omega, Nat.zero_add] at h2
    have h2 : soL (f i :: sg f (i + 1) (c - i - 1)) := h2
    have hj2 : f j ∈ sg f (i + 1) (c - i - 1) := sg_mem.mpr ⟨j, by omega, by omega, rfl⟩
    exact (List.pairwise_cons.mp h2).1 (f j) hj2
theorem sg_filter {f : Nat → Int64} {p : Int64 → Bool} {a b c : Nat} (hab : a ≤ b) (hbc : b ≤ c) (h1 : ∀ i, i < a → p (f i) = false) (h2 : ∀ i, a ≤ i → i < b → p (f i) = true) (h3 : ∀ i, b ≤ i → i < c → p (f i) = false) : sg f a (b - a) = (sg f 0 c).filter p := by
  rw [show c = a + ((b - a) + (c - b)) by omega, sg_app, sg_app, List.filter_append, List.filter_append, Nat.zero_add, show a + (b - a) = b by omega]
  have e1 : (sg f 0 a).filter p = [] := List.filter_eq_nil_iff.mpr (fun y hy => by
    obtain ⟨i, -, i2, rfl⟩ := sg_mem.mp hy
    rw [h1 i (by omega)]; intro z; cases z)
  have e3 : (sg f b (c - b)).filter p = [] := List.filter_eq_nil_iff.mpr (fun y hy => by
    obtain ⟨i, i1, i2, rfl⟩ := sg_mem.mp hy
    rw [h3 i i1 (by omega)]; intro z; cases z)
  have e2 : (sg f a (b - a)).filter p = sg f a (b - a) := List.filter_eq_self.mpr (fun y hy => by
    obtain ⟨i, i1, i2, rfl⟩ := sg_mem.mp hy
    exact h2 i i1 (by omega))
  rw [e1, e2, e3, List.nil_append, List.append_nil]
theorem mk_slice {f : Nat → Int64} {c : Nat} (hm : ∀ i j, i ≤ j → j < c → llN (f i) ≤ llN (f j)) (l : Nat) : mkN f c l ≤ mkN f c (l + 1) ∧ mkN f c (l + 1) ≤ c ∧ sg f (mkN f c l) (mkN f c (l + 1) - mkN f c l) = (sg f 0 c).filter (fun v => decide (llN v = l)) := by
  obtain ⟨a1, a2⟩ := mkN_ok hm l
  obtain ⟨b1, b2⟩ := mkN_ok hm (l + 1)
  have h0 := mkN_up f c l
  refine ⟨h0, b1, sg_filter h0 b1 (fun i hi => ?_) (fun i i1 i2 => ?_) (fun i i1 i2 => ?_)⟩
  · have := (a2 i (by omega)).mp hi
    exact decide_eq_false (by omega)
  · have h1 := (not_congr (a2 i (by omega))).mp (by omega)
    have h2 := (b2 i (by omega)).mp i2
    exact decide_eq_true (by omega)
  · have h2 := (not_congr (b2 i i2)).mp (by omega)
    exact decide_eq_false (by omega)
theorem frK_sk (A : Nat → Int64) (cnt l : Nat) : ∀ z k, frK A cnt l z k = skA A l z k
  | 0, _ => rfl
  | z + 1, k => by
    show (if llN (A k) < l then frK A cnt l z (k + 1) else k) = if llN (A k) < l then skA A l z (k + 1) else k
    rw [frK_sk A cnt l z (k + 1)]
theorem frG_get (A : Nat → Int64) (cnt : Nat) : ∀ (z l k : Nat) (F : Nat → Nat), (l = 0 → k = 0) → (∀ m, l = m + 1 → k = mkN A cnt m) → ∀ j, frG A cnt z l k F j = if l ≤ j ∧ j < l + z then mkN A cnt j else F j
  | 0, l, k, F, _, _, j => by rw [if_neg (by omega)]; rfl
  | z + 1, l, k, F, h0, h1, j => by
    have hk : frK A cnt l (cnt - k) k = mkN A cnt l := by
      rw [frK_sk]
      cases l with
      | zero => rw [h0 rfl]; rfl
      | succ m => rw [h1 m rfl]; rfl
    show frG A cnt z (l + 1) (frK A cnt l (cnt - k) k) (updN F l (frK A cnt l (cnt - k) k)) j = _
    rw [hk, frG_get A cnt z (l + 1) _ _ (fun z => by omega) (fun m hm => by rw [show m = l by omega]) j]
    by_cases y : l + 1 ≤ j ∧ j < l + 1 + z
    · rw [if_pos y, if_pos (by omega)]
    · rw [if_neg y]
      by_cases w : j = l
      · subst w; rw [updN_s, if_pos (by omega)]
      · rw [updN_n F w, if_neg (by omega)]
