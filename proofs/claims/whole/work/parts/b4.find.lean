/-! ===== the class finds the reference's parts that lie in the network, in the same order ===== -/
def inG (g v : Int64) : Bool := decide (v &&& (g ^^^ (-1)) = 0)
theorem inG_iff {g v : Int64} : inG g v = true ↔ sbL v g := by unfold inG; rw [decide_eq_true_iff]; exact sb_iff
def xpL (n sh pl : Nat) (c : Nat → Nat) : Nat → Int64
  | 0 => 0
  | m + 1 => xpL n sh pl c m ||| lbN n sh pl c m
theorem lb_congr {n sh pl : Nat} {c c' : Nat → Nat} {m : Nat} (h : ∀ i, i ≤ m → c i = c' i) : lbN n sh pl c m = lbN n sh pl c' m := by
  unfold lbN
  have e : c (if sh = 2 then 0 else m - 1) = c' (if sh = 2 then 0 else m - 1) := h _ (by split <;> omega)
  rw [e, h m (by omega), h 0 (by omega)]
theorem xp_congr {n sh pl : Nat} {c c' : Nat → Nat} : ∀ m, (∀ i, i < m → c i = c' i) → xpL n sh pl c m = xpL n sh pl c' m
  | 0, _ => rfl
  | m + 1, h => by
    show xpL n sh pl c m ||| lbN n sh pl c m = xpL n sh pl c' m ||| lbN n sh pl c' m
    rw [xp_congr m (fun i hi => h i (by omega)), lb_congr (fun i hi => h i (by omega))]
theorem lb_sub {n sh pl : Nat} {c : Nat → Nat} {m : Nat} : ∀ M, m < M → sbL (lbN n sh pl c m) (xpL n sh pl c M)
  | 0, h => by omega
  | M + 1, h => fun k hk => by
    show btL (xpL n sh pl c M ||| lbN n sh pl c M) k = true
    rw [btL_or, Bool.or_eq_true]
    by_cases z : m = M
    · subst z; exact Or.inr hk
    · exact Or.inl (lb_sub M (by omega) k hk)
theorem xp_lop {n sh k : Nat} (hS : shOk sh k) (c : Nat → Nat) : ∀ m, m ≤ k → (clN sh = true → m + 1 < plN sh k) → xpL n sh (plN sh k) c (m + 1) = lopN n sh k c m
  | 0, _, _ => by show (0 : Int64) ||| lbN n sh (plN sh k) c 0 = 0; rw [show lbN n sh (plN sh k) c 0 = 0 from if_pos rfl]; rfl
  | m + 1, hm, hc => by
    have ih := xp_lop (n := n) hS c m (by omega) (fun z => by have := hc z; omega)
    show xpL n sh (plN sh k) c (m + 1) ||| lbN n sh (plN sh k) c (m + 1) = lopN n sh k c m ||| bL (lnN n (c (lsN sh m)) (c (leN sh k m)))
    rw [ih]
    congr 1
    unfold lbN
    rw [if_neg (by omega), if_neg (fun z => by have := hc z.1; omega)]
    have e1 : (if sh = 2 then 0 else m + 1 - 1) = lsN sh m := by unfold lsN; split <;> omega
    have e2 : leN sh k m = m + 1 := by
      unfold leN
      rw [if_neg]
      rintro ⟨z, y⟩
      have := hc z
      unfold plN at this
      rw [if_pos z] at this
      omega
    rw [e1, e2]
theorem xp_full {n sh k : Nat} (hS : shOk sh k) (c : Nat → Nat) : xpL n sh (plN sh k) c (plN sh k) = lopN n sh k c k := by
  obtain ⟨b1, b2, b3, b4, b5, b6⟩ := shOk_b hS
  cases hc : clN sh with
  | false =>
    have : plN sh k = k + 1 := by unfold plN; rw [hc]; rfl
    have h := xp_lop hS (n := n) c k (Nat.le_refl _) (fun z => by rw [hc] at z; cases z)
    rw [← this] at h
    exact h
  | true =>
    have e : plN sh k = k := by unfold plN; rw [hc]; rfl
    obtain ⟨m, hm⟩ : ∃ m, k = m + 1 + 1 := ⟨k - 2, by omega⟩
    have h := xp_lop hS (n := n) c m (by omega) (fun _ => by omega)
    rw [e] at h ⊢
    have s2 : sh ≠ 2 := fun z => by rw [z] at hc; cases hc
    rw [show xpL n sh k c k = xpL n sh k c (m + 1 + 1) by rw [← hm], show lopN n sh k c k = lopN n sh k c (m + 1 + 1) by rw [← hm]]
    show xpL n sh k c (m + 1) ||| lbN n sh k c (m + 1) = (lopN n sh k c m ||| bL (lnN n (c (lsN sh m)) (c (leN sh k m)))) ||| bL (lnN n (c (lsN sh (m + 1))) (c (leN sh k (m + 1))))
    rw [h, Int64.or_assoc]
    congr 1
    unfold lbN
    rw [if_neg (by omega), if_pos ⟨hc, by omega⟩, if_neg s2]
    have e1 : lsN sh m = m := if_neg s2
    have e2 : leN sh k m = m + 1 := if_neg (fun z => by omega)
    have e3 : lsN sh (m + 1) = m + 1 := if_neg s2
    have e4 : leN sh k (m + 1) = 0 := if_pos ⟨hc, by omega⟩
    rw [e1, e2, e3, e4, lnN_sym n (c (m + 1)) (c 0)]
    rfl
theorem filter_fmV (p : Int64 → Bool) (F : Nat → List Int64) : ∀ n, (fmV F n).filter p = fmV (fun v => (F v).filter p) n
  | 0 => rfl
  | n + 1 => by
    show (fmV F n ++ F n).filter p = fmV (fun v => (F v).filter p) n ++ (F n).filter p
    rw [List.filter_append, filter_fmV p F n]
/-- what the class has looked at of the nodes so far -/
def preP (sh k pl m : Nat) (c : Nat → Nat) : Prop :=
  (sh = 1 → m = pl → c 0 < c (pl - 1)) ∧ (sh = 2 → (1 < m → 1 < k ∨ c 0 < c 1)) ∧ (sh = 0 ∨ sh = 3 → (∀ i, 0 < i → i < m → c 0 < c i) ∧ (m = pl → c 1 < c (pl - 1)))
theorem chL_sk {n sh k : Nat} {g : Int64} (hS : shOk sh k) (hn : n ≤ 11) : ∀ (r m : Nat) (c : Nat → Nat), m + r = plN sh k → (∀ i, i < m → c i < n) → (∀ i, i < m → ∀ j, j < i → c j ≠ c i) → preP sh k (plN sh k) m c → sbL (xpL n sh (plN sh k) c m) g → chL n sh k (plN sh k) g r m c (xpL n sh (plN sh k) c m) = (skL n sh k r m c).filter (inG g) := by
  obtain ⟨b1, b2, b3, b4, b5, b6⟩ := shOk_b hS
  have hp2 : sh = 2 → plN sh k = k + 1 := fun z => by subst z; rfl
  have hp0 : sh = 0 ∨ sh = 3 → plN sh k = k ∧ 3 ≤ k := fun z => by
    unfold shOk at hS
    rcases z with z | z <;> subst z <;> exact ⟨rfl, by omega⟩
  intro r
  induction r with
  | zero =>
    intro m c hm h hd hp hx
    have hm : m = plN sh k := by omega
    subst hm
    show [xpL n sh (plN sh k) c (plN sh k)] = (if fsQ sh c (plN sh k) = true then [lopN n sh k c k] else []).filter (inG g)
    obtain ⟨p1, p2, p3⟩ := hp
    have hf : fsQ sh c (plN sh k) = true := by
      unfold fsQ
      by_cases q : sh = 2
      · rw [if_pos q]
        have := p2 q (by omega)
        have := hp2 q
        exact decide_eq_true (by omega)
      · rw [if_neg q]
        by_cases q1 : sh = 1
        · rw [if_pos q1]; exact decide_eq_true (p1 q1 rfl)
        · rw [if_neg q1]
          obtain ⟨a, b⟩ := p3 (by omega)
          refine decide_eq_true ⟨fun i hi z => ?_, b rfl⟩
          by_cases y : i = 0
          · subst y; omega
          · have := a i (by omega) hi; omega
    rw [if_pos hf]
    rw [xp_full hS] at hx ⊢
    rw [List.filter_cons_of_pos (inG_iff.mpr hx)]
    rfl
  | succ r ih =>
    intro m c hm h hd hp hx
    show fmV (fun v => if msN sh k (plN sh k) c v m = true then (if lbN n sh (plN sh k) (updN c m v) m &&& (g ^^^ (-1)) = 0 then chL n sh k (plN sh k) g r (m + 1) (updN c m v) (xpL n sh (plN sh k) c m ||| lbN n sh (plN sh k) (updN c m v) m) else []) else []) n = (fmV (fun v => if (∃ i, i < m ∧ c i = v) ∨ (sh = 2 ∧ 1 < m ∧ v < c (m - 1)) then [] else skL n sh k r (m + 1) (updN c m v)) n).filter (inG g)
    rw [filter_fmV]
    refine fmV_congr (fun v hv => ?_)
    have ms : msN sh k (plN sh k) c v m = true ↔ ((∀ i, i < m → ¬ c i = v) ∧ (m = 0 ∨ (sh = 1 ∧ (m + 1 = plN sh k → c 0 < v)) ∨ (sh = 2 ∧ ((m = 1 ∧ (1 < k ∨ c 0 < v)) ∨ (m ≠ 1 ∧ c (m - 1) < v))) ∨ (sh ≠ 1 ∧ sh ≠ 2 ∧ c 0 < v ∧ (m + 1 = plN sh k → c 1 < v)))) := decide_eq_true_iff
    have us : updN c m v m = v := updN_s c m v
    have un : ∀ i, i < m → updN c m v i = c i := fun i hi => updN_n c (by omega)
    by_cases q : (∃ i, i < m ∧ c i = v) ∨ (sh = 2 ∧ 1 < m ∧ v < c (m - 1))
    · rw [if_pos q, if_neg]
      · rfl
      · intro z
        obtain ⟨z1, z2⟩ := ms.mp z
        rcases q with ⟨i, hi, e⟩ | ⟨e1, e2, e3⟩
        · exact z1 i hi e
        · omega
    · rw [if_neg q]
      have nu : ∀ i, i < m → ¬ c i = v := fun i hi e => q (Or.inl ⟨i, hi, e⟩)
      have u1 : ∀ i, i < m + 1 → updN c m v i < n := fun i hi => by
        by_cases z : i = m
        · rw [z, us]; exact hv
        · rw [un i (by omega)]; exact h i (by omega)
      have u2 : ∀ i, i < m + 1 → ∀ j, j < i → updN c m v j ≠ updN c m v i := fun i hi j hj => by
        rw [un j (by omega)]
        by_cases z : i = m
        · rw [z, us]; exact nu j (by omega)
        · rw [un i (by omega)]; exact hd i (by omega) j hj
      by_cases qm : msN sh k (plN sh k) c v m = true
      · rw [if_pos qm]
        obtain ⟨-, m2⟩ := ms.mp qm
        have xe : xpL n sh (plN sh k) c m ||| lbN n sh (plN sh k) (updN c m v) m = xpL n sh (plN sh k) (updN c m v) (m + 1) := by
          show _ = xpL n sh (plN sh k) (updN c m v) m ||| lbN n sh (plN sh k) (updN c m v) m
          rw [xp_congr m (fun i hi => (un i hi).symm)]
        by_cases ql : lbN n sh (plN sh k) (updN c m v) m &&& (g ^^^ (-1)) = 0
        · rw [if_pos ql, xe]
          refine ih (m + 1) (updN c m v) (by omega) u1 u2 ?_ ?_
          · obtain ⟨p1, p2, p3⟩ := hp
            refine ⟨fun z e => ?_, fun z e => ?_, fun z => ⟨fun i i1 i2 => ?_, fun e => ?_⟩⟩
            · rw [show plN sh k - 1 = m by omega, us, un 0 (by omega)]; omega
            · by_cases y : m = 1
              · rw [un 0 (by omega), show updN c m v 1 = v by rw [y]; exact updN_s c 1 v]; omega
              · rw [un 0 (by omega), un 1 (by omega)]; exact p2 z (by omega)
            · rw [un 0 (by omega)]
              by_cases y : i = m
              · rw [y, us]; omega
              · rw [un i (by omega)]; exact (p3 z).1 i i1 (by omega)
            · have := hp0 z
              rw [show plN sh k - 1 = m by omega, us, un 1 (by omega)]; omega
          · rw [← xe]
            intro j hj
            rw [btL_or, Bool.or_eq_true] at hj
            rcases hj with y | y
            · exact hx j y
            · exact sb_iff.mp ql j y
        · rw [if_neg ql]
          symm
          rw [List.filter_eq_nil_iff]
          intro y hy hin
          obtain ⟨nd, h1, h2, h3, h4, h5⟩ := (skL_mem hS r (m + 1) _ y (by omega) u1 u2).mp hy
          apply ql
          rw [sb_iff]
          refine sbL.trans ?_ (inG_iff.mp hin)
          rw [h5, ← xp_full hS, lb_congr (c' := nd) (fun i hi => (h2 i (by omega)).symm)]
          exact lb_sub _ (by omega)
      · rw [if_neg qm]
        symm
        rw [List.filter_eq_nil_iff]
        intro y hy _
        obtain ⟨nd, h1, h2, h3, h4, h5⟩ := (skL_mem hS r (m + 1) _ y (by omega) u1 u2).mp hy
        apply qm
        refine ms.mpr ⟨nu, ?_⟩
        by_cases z0 : m = 0
        · exact Or.inl z0
        · right
          have n0 : nd 0 = c 0 := (h2 0 (by omega)).trans (un 0 (by omega))
          have nm : nd m = v := (h2 m (by omega)).trans us
          have nv0 := nu 0 (by omega)
          unfold fsQ at h3
          by_cases s2 : sh = 2
          · rw [if_pos s2, decide_eq_true_iff] at h3
            have := hp2 s2
            refine Or.inr (Or.inl ⟨s2, ?_⟩)
            by_cases y : m = 1
            · subst y; rw [n0, nm] at h3; omega
            · have a1 : ¬ v < c (m - 1) := fun z => q (Or.inr ⟨s2, by omega, z⟩)
              have a2 := nu (m - 1) (by omega)
              omega
          · rw [if_neg s2] at h3
            by_cases s1 : sh = 1
            · rw [if_pos s1, decide_eq_true_iff] at h3
              refine Or.inl ⟨s1, fun e => ?_⟩
              rw [show plN sh k - 1 = m by omega] at h3
              omega
            · rw [if_neg s1, decide_eq_true_iff] at h3
              obtain ⟨f1, f2⟩ := h3
              have := f1 m (by omega)
              refine Or.inr (Or.inr ⟨s1, s2, by omega, fun e => ?_⟩)
              have := hp0 (by omega)
              have n1 : nd 1 = c 1 := (h2 1 (by omega)).trans (un 1 (by omega))
              rw [show plN sh k - 1 = m by omega] at f2
              omega
theorem pa_ap {n sh k : Nat} (g : Int64) (hS : shOk sh k) (hn : n ≤ 11) : paL n sh k g = (apL n sh k).filter (inG g) :=
  chL_sk hS hn (plN sh k) 0 (fun _ => 0) (by omega) (fun i hi => by omega) (fun i hi => by omega) (by
    have := (shOk_b hS).2.2.2.2.1
    exact ⟨fun _ z => by omega, fun _ z => by omega, fun _ => ⟨fun i _ i2 => by omega, fun z => by omega⟩⟩) (fun j hk => by rw [show xpL n sh (plN sh k) (fun _ => 0) 0 = 0 from rfl, btL_0] at hk; cases hk)
/-! ===== how many there are ===== -/
def smV (F : Nat → Nat) : Nat → Nat
  | 0 => 0
  | v + 1 => smV F v + F v
theorem smV_le {F G : Nat → Nat} : ∀ n, (∀ v, v < n → F v ≤ G v) → smV F n ≤ smV G n
  | 0, _ => Nat.le_refl _
  | n + 1, h => Nat.add_le_add (smV_le n (fun v hv => h v (by omega))) (h n (by omega))
theorem fmV_len (F : Nat → List Int64) : ∀ n, (fmV F n).length = smV (fun v => (F v).length) n
  | 0 => rfl
  | n + 1 => by show (fmV F n ++ F n).length = smV (fun v => (F v).length) n + (F n).length; rw [List.length_append, fmV_len F n]
def okW (sh k pl dp c0 c1 cp v : Nat) : Bool := match sh with
  | 1 => !(Nat.beq (dp + 1) pl) || Nat.blt c0 v
  | 2 => (Nat.beq dp 1 && (Nat.blt 1 k || Nat.blt c0 v)) || (!Nat.beq dp 1 && Nat.blt cp v)
  | _ => Nat.blt c0 v && (!(Nat.beq (dp + 1) pl) || Nat.blt c1 v)
def okV (sh k pl dp c0 c1 cp v : Nat) : Bool := Nat.beq dp 0 || okW sh k pl dp c0 c1 cp v
def cnV (n sh k pl : Nat) : Nat → Nat → Nat → Nat → Nat → Nat → Nat
  | 0, _, _, _, _, _ => 1
  | m + 1, dp, us, c0, c1, cp => smV (fun v => cond (!Nat.testBit us v && okV sh k pl dp c0 c1 cp v) (cnV n sh k pl m (dp + 1) (us ||| 2 ^ v) (cond (Nat.beq dp 0) v c0) (cond (Nat.beq dp 1) v c1) v) 0) n
theorem ok_ms {sh k pl dp v : Nat} {c : Nat → Nat} (h : sh ≤ 3) (hm : msN sh k pl c v dp = true) : okV sh k pl dp (c 0) (c 1) (c (dp - 1)) v = true ∧ ∀ i, i < dp → ¬ c i = v := by
  obtain ⟨m1, m2⟩ := of_decide_eq_true hm
  refine ⟨?_, m1⟩
  unfold okV
  rw [Bool.or_eq_true, beq9]
  by_cases z : dp = 0
  · exact Or.inl z
  · right
    have : sh = 1 ∨ sh = 2 ∨ sh = 0 ∨ sh = 3 := by omega
    rcases this with y | y | y
    · subst y
      show (!(Nat.beq (dp + 1) pl) || Nat.blt (c 0) v) = true
      rw [Bool.or_eq_true, blt_iff]
      by_cases e : dp + 1 = pl
      · right; omega
      · left
        cases e2 : Nat.beq (dp + 1) pl with
        | false => rfl
        | true => exact absurd (beq9.mp e2) e
    · subst y
      show ((Nat.beq dp 1 && (Nat.blt 1 k || Nat.blt (c 0) v)) || (!Nat.beq dp 1 && Nat.blt (c (dp - 1)) v)) = true
      by_cases e : dp = 1
      · rw [show Nat.beq dp 1 = true from beq9.mpr e]
        show ((Nat.blt 1 k || Nat.blt (c 0) v) || false) = true
        rw [Bool.or_false, Bool.or_eq_true, blt_iff, blt_iff]
        omega
      · rw [show Nat.beq dp 1 = false by cases e2 : Nat.beq dp 1 with
          | false => rfl
          | true => exact absurd (beq9.mp e2) e]
        show Nat.blt (c (dp - 1)) v = true
        rw [blt_iff]
        omega
    · have e0 : okW sh k pl dp (c 0) (c 1) (c (dp - 1)) v = (Nat.blt (c 0) v && (!(Nat.beq (dp + 1) pl) || Nat.blt (c 1) v)) := by rcases y with y | y <;> subst y <;> rfl
      rw [e0, and9, blt_iff, Bool.or_eq_true, blt_iff]
      refine ⟨by omega, ?_⟩
      by_cases e : dp + 1 = pl
      · right; omega
      · left
        cases e2 : Nat.beq (dp + 1) pl with
        | false => rfl
        | true => exact absurd (beq9.mp e2) e
theorem ch_cn {n sh k : Nat} {g : Int64} (hS : shOk sh k) : ∀ (m dp us : Nat) (c : Nat → Nat) (x : Int64), (∀ v, us.testBit v = true → ∃ i, i < dp ∧ c i = v) → (chL n sh k (plN sh k) g m dp c x).length ≤ cnV n sh k (plN sh k) m dp us (c 0) (c 1) (c (dp - 1)) := by
  intro m
  induction m with
  | zero => exact fun dp us c x _ => Nat.le_refl _
  | succ m ih =>
    intro dp us c x hu
    show (fmV (fun v => if msN sh k (plN sh k) c v dp = true then (if lbN n sh (plN sh k) (updN c dp v) dp &&& (g ^^^ (-1)) = 0 then chL n sh k (plN sh k) g m (dp + 1) (updN c dp v) (x ||| lbN n sh (plN sh k) (updN c dp v) dp) else []) else []) n).length ≤ smV (fun v => cond (!Nat.testBit us v && okV sh k (plN sh k) dp (c 0) (c 1) (c (dp - 1)) v) (cnV n sh k (plN sh k) m (dp + 1) (us ||| 2 ^ v) (cond (Nat.beq dp 0) v (c 0)) (cond (Nat.beq dp 1) v (c 1)) v) 0) n
    rw [fmV_len]
    refine smV_le n (fun v hv => ?_)
    by_cases q : msN sh k (plN sh k) c v dp = true
    · obtain ⟨o1, o2⟩ := ok_ms (shOk_b hS).1 q
      have hb : us.testBit v = false := by
        cases e : us.testBit v with
        | false => rfl
        | true => obtain ⟨i, hi, e2⟩ := hu v e; exact absurd e2 (o2 i hi)
      rw [if_pos q, o1, hb]
      show _ ≤ cnV n sh k (plN sh k) m (dp + 1) (us ||| 2 ^ v) (cond (Nat.beq dp 0) v (c 0)) (cond (Nat.beq dp 1) v (c 1)) v
      by_cases ql : lbN n sh (plN sh k) (updN c dp v) dp &&& (g ^^^ (-1)) = 0
      · rw [if_pos ql]
        have := ih (dp + 1) (us ||| 2 ^ v) (updN c dp v) (x ||| lbN n sh (plN sh k) (updN c dp v) dp) (fun w hw => by
          rw [Nat.testBit_or, Nat.testBit_two_pow, Bool.or_eq_true, decide_eq_true_iff] at hw
          rcases hw with hw | hw
          · obtain ⟨i, hi, e⟩ := hu w hw
            exact ⟨i, by omega, by rw [updN_n c (by omega)]; exact e⟩
          · exact ⟨dp, by omega, by rw [updN_s]; exact hw⟩)
        rw [show dp + 1 - 1 = dp by omega, updN_s] at this
        have e0 : updN c dp v 0 = cond (Nat.beq dp 0) v (c 0) := by
          cases dp with
          | zero => exact updN_s c 0 v
          | succ d => exact updN_n c (by omega)
        have e1 : updN c dp v 1 = cond (Nat.beq dp 1) v (c 1) := by
          match dp with
          | 0 => exact updN_n c (by omega)
          | 1 => exact updN_s c 1 v
          | d + 2 => exact updN_n c (by omega)
        rw [e0, e1] at this
        exact this
      · rw [if_neg ql]; exact Nat.zero_le _
    · rw [if_neg q]; exact Nat.zero_le _
def fal (n : Nat) : Nat → Nat
  | 0 => 1
  | k + 1 => (n - k) * fal n k
def apU (n sh k : Nat) : Nat := match sh with
  | 1 => fal n (k + 1) / 2
  | 2 => (match k with | 1 => fal n 2 / 2 | 2 => fal n 3 / 2 | 3 => fal n 4 / 6 | _ => fal n 5 / 24)
  | _ => fal n k / (2 * k)
theorem cnV_0_3 : alB (fun n => Nat.ble (cnV n 0 3 3 3 0 0 0 0 0) (apU n 0 3)) 12 = true := by decide +kernel
theorem cnV_1_1 : alB (fun n => Nat.ble (cnV n 1 1 2 2 0 0 0 0 0) (apU n 1 1)) 12 = true := by decide +kernel
theorem cnV_1_2 : alB (fun n => Nat.ble (cnV n 1 2 3 3 0 0 0 0 0) (apU n 1 2)) 12 = true := by decide +kernel
theorem cnV_1_3 : alB (fun n => Nat.ble (cnV n 1 3 4 4 0 0 0 0 0) (apU n 1 3)) 12 = true := by decide +kernel
theorem cnV_1_4 : alB (fun n => Nat.ble (cnV n 1 4 5 5 0 0 0 0 0) (apU n 1 4)) 12 = true := by decide +kernel
theorem cnV_2_1 : alB (fun n => Nat.ble (cnV n 2 1 2 2 0 0 0 0 0) (apU n 2 1)) 12 = true := by decide +kernel
theorem cnV_2_2 : alB (fun n => Nat.ble (cnV n 2 2 3 3 0 0 0 0 0) (apU n 2 2)) 12 = true := by decide +kernel
theorem cnV_2_3 : alB (fun n => Nat.ble (cnV n 2 3 4 4 0 0 0 0 0) (apU n 2 3)) 12 = true := by decide +kernel
theorem cnV_2_4 : alB (fun n => Nat.ble (cnV n 2 4 5 5 0 0 0 0 0) (apU n 2 4)) 12 = true := by decide +kernel
theorem cnV_3_3 : alB (fun n => Nat.ble (cnV n 3 3 3 3 0 0 0 0 0) (apU n 3 3)) 12 = true := by decide +kernel
theorem cnV_3_4 : alB (fun n => Nat.ble (cnV n 3 4 4 4 0 0 0 0 0) (apU n 3 4)) 12 = true := by decide +kernel
theorem cnV_3_5 : alB (fun n => Nat.ble (cnV n 3 5 5 5 0 0 0 0 0) (apU n 3 5)) 12 = true := by decide +kernel
theorem cn_U {n sh k : Nat} (hS : shOk sh k) (hn : n ≤ 11) : cnV n sh k (plN sh k) (plN sh k) 0 0 0 0 0 ≤ apU n sh k := by
  rcases hS with ⟨h1, h2⟩ | ⟨h1, h2, h3⟩ | ⟨h1, h2, h3⟩ | ⟨h1, h2, h3⟩ <;> subst h1
  · subst h2; exact Nat.le_of_ble_eq_true ((alB_iff _ _).mp cnV_0_3 n (by omega))
  · have : k = 1 ∨ k = 2 ∨ k = 3 ∨ k = 4 := by omega
    rcases this with z | z | z | z <;> subst z
    · exact Nat.le_of_ble_eq_true ((alB_iff _ _).mp cnV_1_1 n (by omega))
    · exact Nat.le_of_ble_eq_true ((alB_iff _ _).mp cnV_1_2 n (by omega))
    · exact Nat.le_of_ble_eq_true ((alB_iff _ _).mp cnV_1_3 n (by omega))
    · exact Nat.le_of_ble_eq_true ((alB_iff _ _).mp cnV_1_4 n (by omega))
  · have : k = 1 ∨ k = 2 ∨ k = 3 ∨ k = 4 := by omega
    rcases this with z | z | z | z <;> subst z
    · exact Nat.le_of_ble_eq_true ((alB_iff _ _).mp cnV_2_1 n (by omega))
    · exact Nat.le_of_ble_eq_true ((alB_iff _ _).mp cnV_2_2 n (by omega))
    · exact Nat.le_of_ble_eq_true ((alB_iff _ _).mp cnV_2_3 n (by omega))
    · exact Nat.le_of_ble_eq_true ((alB_iff _ _).mp cnV_2_4 n (by omega))
  · have : k = 3 ∨ k = 4 ∨ k = 5 := by omega
    rcases this with z | z | z <;> subst z
    · exact Nat.le_of_ble_eq_true ((alB_iff _ _).mp cnV_3_3 n (by omega))
    · exact Nat.le_of_ble_eq_true ((alB_iff _ _).mp cnV_3_4 n (by omega))
    · exact Nat.le_of_ble_eq_true ((alB_iff _ _).mp cnV_3_5 n (by omega))
theorem pa_U {n sh k : Nat} (g : Int64) (hS : shOk sh k) (hn : n ≤ 11) : (paL n sh k g).length ≤ apU n sh k :=
  Nat.le_trans (ch_cn hS (plN sh k) 0 0 (fun _ => 0) 0 (fun v h => by rw [Nat.zero_testBit] at h; cases h)) (cn_U hS hn)
theorem ap_U {n sh k : Nat} (hS : shOk sh k) (hn : n ≤ 11) : (apL n sh k).length ≤ apU n sh k := by
  have h := pa_U (n := n) (-1) hS hn
  rw [pa_ap (-1) hS hn, List.filter_eq_self.mpr] at h
  · exact h
  · intro a _
    exact inG_iff.mpr (fun k hk => btL_m1 k (btL_lt hk))
theorem apU_le : alB (fun n => alB (fun sh => alB (fun k => !shB sh k || Nat.ble (apU n sh k) 27720) 6) 4) 12 = true := by decide +kernel
theorem apU_27 {n sh k : Nat} (hS : shOk sh k) (hn : n ≤ 11) : apU n sh k ≤ 27720 := by
  obtain ⟨b1, b2, b3, -⟩ := shOk_b hS
  have := (alB_iff _ _).mp ((alB_iff _ _).mp ((alB_iff _ _).mp apU_le n (by omega)) sh (by omega)) k (by omega)
  rw [shB_of hS] at this
  exact Nat.le_of_ble_eq_true this
