/-! ===== reading: the end of it ===== -/
def plK (b : G1) : Prop := ∀ j, b.2.2.2.2.2.2.2.1 j ≤ 5
theorem pl_wr {b : G1} {w : Nat} {p : Int32} (h : plK b) : plK (bWr b w p) := by
  show plK (if b.2.2.1 = 0 then (b.1, b.2.1, w, p, b.2.2.2.2) else b)
  by_cases q : b.2.2.1 = 0
  · rw [if_pos q]; exact h
  · rw [if_neg q]; exact h
theorem pl_he {b : G1} (h : plK b) : plK (heB b) := h
theorem pl_at {b : G1} {x : Nat} (h : plK b) : plK (bAt b x) := h
theorem pl_T {b : G1} {T : Nat → Int64} (h : plK b) : plK (bT b T) := h
theorem pl_tk {b : G1} {w : String} (h : plK b) : plK (tkM b w) := by
  unfold tkM takM
  by_cases q : b.2.2.1 = 0
  · rw [if_pos q]
    by_cases y : takB b w.toList = true
    · rw [if_pos y]; exact h
    · rw [if_neg y]; exact h
  · rw [if_neg q]; exact h
theorem pl_num {lo hi : Nat} {but : Int32} {b : G1} (h : plK b) : plK (numM lo hi but b).2 := by
  unfold numM
  by_cases q : b.2.2.1 = 0
  · rw [if_pos q]
    by_cases y : dgB (byM b (tkP b)) = true
    · rw [if_pos y]
      by_cases z : (lo ≤ numV b ∧ numV b ≤ hi) ∧ nI (numV b) ≠ but
      · rw [if_pos z]; exact h
      · rw [if_neg z]; exact pl_wr (pl_at h)
    · rw [if_neg y]; exact pl_wr (pl_at h)
  · rw [if_neg q]; exact h
theorem pl_mus {x : Int32} {b : G1} (h : plK b) : plK (musM b x) := by
  unfold musM
  by_cases q : b.2.2.1 = 0
  · rw [if_pos q]
    by_cases y : byM b (tkP b) = x
    · rw [if_pos y]; exact h
    · rw [if_neg y]; exact pl_wr (pl_at h)
  · rw [if_neg q]; exact h
theorem pl_rn {most : Nat} : ∀ (z : Nat) (b : G1) (c : G3), plK b → plK (rnM most z b c).1
  | 0, _, _, h => h
  | z + 1, b, c, h => by
    unfold rnM
    by_cases q : b.2.2.1 = 0
    · rw [if_pos q]
      by_cases y : c.2 = 0 ∨ dgB (byM b (tkP b)) = true
      · rw [if_pos y]
        by_cases w : c.2 = 5
        · rw [if_pos w]; exact pl_wr (pl_he h)
        · rw [if_neg w]
          have hb : plK (if c.2 = 0 then b else heB b) := by
            by_cases v : c.2 = 0
            · rw [if_pos v]; exact h
            · rw [if_neg v]; exact h
          generalize (if c.2 = 0 then b else heB b) = b' at hb
          have hn := pl_num (lo := 0) (hi := most) (but := -1) hb
          by_cases v : (numM 0 most (-1) b').2.2.2.1 = 0
          · rw [if_pos v]; exact pl_rn z _ _ hn
          · rw [if_neg v]; exact hn
      · rw [if_neg y]; exact pl_he h
    · rw [if_neg q]; exact h
theorem pl_pr {n : Nat} {b b0 : G1} {c : G3} (hk : rdK b0 b) (h : plK b) : plK (prM n b c).1 := by
  have h1 := pl_rn (most := n - 1) 6 b (c.1, 0) h
  have h2 := (rdK_rn (most := n - 1) (x := c.1) hk).2
  unfold prM
  generalize rnM (n - 1) 6 b (c.1, 0) = r at *
  by_cases q : r.1.2.2.1 = 0
  · rw [if_pos q]; exact updN_le h1 h2
  · rw [if_neg q]; exact h1
theorem pl_ba {bc : Nat} {w : Int32} {b : G1} {c : G3} (h : plK b) : plK (baM bc w b c).1 := by
  have h0 : plK (baB bc w b) := by
    unfold baB
    by_cases q : bc = 4
    · rw [if_pos q]; exact pl_wr h
    · rw [if_neg q]; exact h
  have h1 := pl_rn (most := 30) 6 _ (c.1, 0) h0
  unfold baM
  generalize rnM 30 6 (baB bc w b) (c.1, 0) = r at *
  by_cases q : r.1.2.2.1 = 0
  · rw [if_pos q]; exact h1
  · rw [if_neg q]; exact h1
theorem pl_shZ {s : Int64} {b : G1} (h : plK b) : plK (shZ s b) := by
  unfold shZ
  have z : ∀ r : Nat × G1, plK r.2 → plK (shZ2 r) := fun r hr => hr
  apply z
  by_cases q1 : s = -1
  · rw [if_pos q1]; exact pl_num (pl_wr (pl_T h))
  · rw [if_neg q1]
    by_cases q2 : s = lN 0
    · rw [if_pos q2]; exact pl_T h
    · rw [if_neg q2]
      by_cases q3 : s = lN 3
      · rw [if_pos q3]; exact pl_num (pl_T h)
      · rw [if_neg q3]; exact pl_num (pl_T h)
theorem pl_shW {b : G1} (h : plK b) : plK (shW b) := by
  have h1 := pl_tk (w := "triangle") h
  have h2 := pl_tk (w := "path") h1
  have h3 := pl_tk (w := "star") h2
  have h4 := pl_tk (w := "ring") h3
  unfold shW
  repeat' split
  · exact pl_shZ h1
  · exact pl_shZ h2
  · exact pl_shZ h3
  · exact pl_shZ h4
  · exact pl_shZ h4
theorem pl_ln {n : Nat} {more : Bool} {b : G1} (h : plK b) : plK (lnM n more b) := by
  have h1 := pl_num (lo := 0) (hi := n - 1) (but := -1) h
  unfold lnM
  generalize numM 0 (n - 1) (-1) b = r at *
  have h2 := pl_num (lo := 0) (hi := n - 1) (but := nI r.1) h1
  generalize numM 0 (n - 1) (nI r.1) r.2 = q at *
  by_cases q1 : q.2.2.2.1 = 0
  · rw [if_pos q1]; exact pl_T h2
  · rw [if_neg q1]; exact h2
theorem pl_ls {n : Nat} {w : Int32} {b : G1} (h : plK b) : plK (lsM n w b) := by
  have h1 := pl_tk (w := "line") h
  have h2 := pl_tk (w := "less") h1
  unfold lsM
  by_cases q1 : tkB b "line" = true
  · rw [if_pos q1]; exact pl_ln h1
  · rw [if_neg q1]
    by_cases q2 : tkB (tkM b "line") "less" = true
    · rw [if_pos q2]; exact pl_ln h2
    · rw [if_neg q2]; exact pl_ln (pl_wr h2)
theorem pl_le {n bc : Nat} {w : Int32} {b b0 : G1} {c : G3} (hk : rdK b0 b) (h : plK b) : plK (leM n bc w b c).1 := by
  have h1 := pl_tk (w := "all") h
  have h2 := pl_tk (w := "part") h1
  have h3 := pl_tk (w := "base") h2
  have h4 := pl_tk (w := "shape") h3
  have k1 := rdK_tk (j := 26) (x := ("PartedNetModel", 176, "all")) rfl hk
  have k2 := rdK_tk (j := 27) (x := ("PartedNetModel", 181, "part")) rfl k1
  unfold leM
  by_cases q1 : tkB b "all" = true
  · rw [if_pos q1]; exact pl_T h1
  · rw [if_neg q1]
    by_cases q2 : tkB (tkM b "all") "part" = true
    · rw [if_pos q2]; exact pl_pr k2 h2
    · rw [if_neg q2]
      by_cases q3 : tkB (tkM (tkM b "all") "part") "base" = true
      · rw [if_pos q3]; exact pl_ba h3
      · rw [if_neg q3]
        by_cases q4 : b.2.2.2.2.2.2.2.2.2 = true
        · rw [if_pos q4]; exact pl_ls h3
        · rw [if_neg q4]
          by_cases q5 : tkB (tkM (tkM (tkM b "all") "part") "base") "shape" = true
          · rw [if_pos q5]; exact pl_shW (b := bSh _) h4
          · rw [if_neg q5]; exact pl_ls h4
/-! parts that do not meet -/
theorem pts_push {n : Nat} {g : Int64} {sh k p : Nat} {ps : Nat → Int64} {x : Int64} (h : ptsOk n g sh k p ps) (h1 : ptP n sh k x) (h2 : sbL x g) (h3 : ∀ i, i < p → ps i &&& x = 0) : ptsOk n g sh k (p + 1) (vp_updL ps p x) := by
  refine ⟨fun i hi => ?_, fun i hi j hj => ?_⟩
  · by_cases q : i = p
    · subst q; rw [pk_uLs]; exact ⟨h1, h2⟩
    · rw [pk_uLn q]; exact h.1 i (by omega)
  · by_cases q : i = p
    · subst q; rw [pk_uLs, pk_uLn (by omega)]; exact h3 j hj
    · rw [pk_uLn q, pk_uLn (by omega)]; exact h.2 i (by omega) j hj
theorem cpE_at (x F : Nat → Int32) (p : Nat) : ∀ c i, cpE x F p c i = if i < c then F (5 * p + i) else x i
  | 0, i => by rw [if_neg (by omega)]; rfl
  | c + 1, i => by
    show upd (cpE x F p c) c (F (5 * p + c)) i = _
    by_cases q : i = c
    · subst q; rw [pk_us, if_pos (by omega)]
    · rw [pk_un q, cpE_at x F p c i]
      by_cases w : i < c
      · rw [if_pos w, if_pos (by omega)]
      · rw [if_neg w, if_neg (by omega)]
theorem lpN_sh {n sh k : Nat} {row : Nat → Int32} {f c : Nat} : lpN n sh k row f c = lpN n sh k (fun j => row (f + j)) 0 c := by
  have e1 : ndN (fun j => row (f + j)) 0 = ndN row f := funext fun j => by show (row (f + (0 + j))).toNatClampNeg = (row (f + j)).toNatClampNeg; rw [Nat.zero_add]
  have e2 : telN (fun j => row (f + j)) 0 c (n - 1) = telN row f c (n - 1) := by
    unfold telN
    simp only [Nat.zero_add]
  unfold lpN
  rw [e1, e2]
theorem par_sim {n sh k : Nat} (hS : shOk sh k) (hn : n ≤ 11) (hn1 : 1 ≤ n) {g : Int64} {pn pnR : Nat → Int32} {pl plR : Nat → Nat} {pct : Nat} (hp : ∀ p, p < pct → plR p = pl p ∧ ∀ i, i < pl p → pnR (5 * p + i) = pn (p * 5 + i)) : ∀ (z p : Nat) (x9 t : Int64) (ps T : Nat → Int64) (x : Nat → Int32) (m : Nat), p + z = pct → (∀ i, btL x9 i = (btL g i && !btL t i)) → (∀ j, j < p → T (30 + j) = ps j) → ptsOk n g sh k p ps → (∀ i, i < p → sbL (ps i) t) →
    (stP n sh k pn pl z p x9 ps).1 = (arP n sh k g pnR plR z p t T x m).1 ∧ ((stP n sh k pn pl z p x9 ps).1 = true → (stP n sh k pn pl z p x9 ps).2.1 = p + z ∧ (∀ j, j < p + z → (arP n sh k g pnR plR z p t T x m).2.1 (30 + j) = (stP n sh k pn pl z p x9 ps).2.2 j) ∧ (∀ j, j < 30 ∨ 30 + (p + z) ≤ j → (arP n sh k g pnR plR z p t T x m).2.1 j = T j) ∧ ptsOk n g sh k (p + z) (stP n sh k pn pl z p x9 ps).2.2)
  | 0, p, x9, t, ps, T, x, m, _, _, h3, h4, _ => ⟨rfl, fun _ => ⟨rfl, h3, fun _ _ => rfl, h4⟩⟩
  | z + 1, p, x9, t, ps, T, x, m, hz, hx, h3, h4, h5 => by
    obtain ⟨q1, q2⟩ := hp p (by omega)
    have el : lpN n sh k (cpE x pnR p (plR p)) 0 (plR p) = lpN n sh k pn (p * 5) (pl p) := by
      rw [q1, lpN_sh (row := pn)]
      refine lpN_congr hS (fun j hj => ?_)
      rw [Nat.zero_add, cpE_at, if_pos hj]
      exact q2 j hj
    have ea : arP n sh k g pnR plR (z + 1) p t T x m = if lpN n sh k (cpE x pnR p (plR p)) 0 (plR p) = lN 0 ∨ ¬ lpN n sh k (cpE x pnR p (plR p)) 0 (plR p) &&& (g ^^^ (-1)) = lN 0 ∨ ¬ lpN n sh k (cpE x pnR p (plR p)) 0 (plR p) &&& t = lN 0 then (false, T, cpE x pnR p (plR p), plR p) else arP n sh k g pnR plR z (p + 1) (t ||| lpN n sh k (cpE x pnR p (plR p)) 0 (plR p)) (vp_updL T (30 + p) (lpN n sh k (cpE x pnR p (plR p)) 0 (plR p))) (cpE x pnR p (plR p)) (plR p) := rfl
    have es : stP n sh k pn pl (z + 1) p x9 ps = if lpN n sh k pn (p * 5) (pl p) = 0 then (false, p, ps) else if lpN n sh k pn (p * 5) (pl p) &&& (x9 ^^^ (-1)) = 0 then stP n sh k pn pl z (p + 1) (x9 &&& (lpN n sh k pn (p * 5) (pl p) ^^^ (-1))) (vp_updL ps p (lpN n sh k pn (p * 5) (pl p))) else (false, p, ps) := rfl
    have hpt := fun h => lpN_pt (n := n) (sh := sh) (k := k) (row := pn) (f := p * 5) (c := pl p) hn hn1 h
    rw [ea, es, el, lN0]
    generalize lpN n sh k pn (p * 5) (pl p) = y at *
    by_cases y0 : y = 0
    · rw [if_pos y0, if_pos (Or.inl y0)]
      exact ⟨rfl, fun w => by cases w⟩
    · rw [if_neg y0]
      have hiff : y &&& (x9 ^^^ (-1)) = 0 ↔ y &&& (g ^^^ (-1)) = 0 ∧ y &&& t = 0 := by
        rw [sb_iff, sb_iff, dj_iff]
        constructor
        · intro h
          refine ⟨fun i hi => ?_, fun i hi => ?_⟩
          · have := h i hi; rw [hx i, and9] at this; exact this.1
          · have := h i hi; rw [hx i, and9] at this
            cases w : btL t i with
            | false => rfl
            | true => rw [w] at this; cases this.2
        · rintro ⟨h1, h2⟩ i hi
          rw [hx i, h1 i hi, h2 i hi]; rfl
      by_cases y1 : y &&& (x9 ^^^ (-1)) = 0
      · obtain ⟨g1, g2⟩ := hiff.mp y1
        rw [if_pos y1, if_neg (fun w => by rcases w with w | w | w; exact y0 w; exact w g1; exact w g2)]
        have := par_sim hS hn hn1 hp z (p + 1) (x9 &&& (y ^^^ (-1))) (t ||| y) (vp_updL ps p y) (vp_updL T (30 + p) y) (cpE x pnR p (plR p)) (plR p) (by omega) (fun i => by
          rw [btL_mi, btL_or, hx i]; cases btL g i <;> cases btL t i <;> cases btL y i <;> rfl) (fun j hj => by
          by_cases w : j = p
          · subst w; rw [pk_uLs, pk_uLs]
          · rw [pk_uLn (by omega), pk_uLn w]; exact h3 j (by omega)) (pts_push h4 (hpt y0) (sb_iff.mp g1) (fun i hi => dj_iff.mpr (fun b hb => by
            have hb2 := h5 i hi b hb
            cases w : btL y b with
            | false => rfl
            | true => rw [dj_iff.mp g2 b w] at hb2; cases hb2))) (fun i hi b hb => by
          rw [btL_or]
          by_cases w : i = p
          · subst w; rw [pk_uLs] at hb; rw [hb, Bool.or_true]
          · rw [pk_uLn w] at hb; rw [h5 i (by omega) b hb]; rfl)
        obtain ⟨r1, r2⟩ := this
        refine ⟨r1, fun w => ?_⟩
        obtain ⟨s1, s2, s3, s4⟩ := r2 w
        rw [show p + (z + 1) = p + 1 + z by omega]
        refine ⟨s1, s2, fun j hj => ?_, s4⟩
        rw [s3 j hj, pk_uLn (by omega)]
      · rw [if_neg y1, if_pos]
        · exact ⟨rfl, fun w => by cases w⟩
        · by_cases w : y &&& (g ^^^ (-1)) = 0
          · exact Or.inr (Or.inr (fun v => y1 (hiff.mpr ⟨w, v⟩)))
          · exact Or.inr (Or.inl w)
theorem stB_iff {bs : Nat → Int32} {sh k : Nat} {bl : Nat → Nat} : ∀ z b, stB bs sh k bl z b = true ↔ ∀ u, b ≤ u → u < b + z → bl u = plN sh k ∧ telN bs (u * 5) (bl u) 30 = true
  | 0, b => ⟨fun _ u h1 h2 => by omega, fun _ => rfl⟩
  | z + 1, b => by
    have e : stB bs sh k bl (z + 1) b = if (decide (bl b = plN sh k) && telN bs (b * 5) (bl b) 30) = true then stB bs sh k bl z (b + 1) else false := rfl
    rw [e]
    by_cases q : (decide (bl b = plN sh k) && telN bs (b * 5) (bl b) 30) = true
    · rw [if_pos q, stB_iff z (b + 1)]
      rw [and9, decide_eq_true_iff] at q
      constructor
      · intro h u h1 h2
        by_cases w : u = b
        · subst w; exact q
        · exact h u (by omega) (by omega)
      · intro h u h1 h2
        exact h u (by omega) (by omega)
    · rw [if_neg q]
      refine ⟨(fun w => by cases w), fun h => absurd ?_ q⟩
      rw [and9, decide_eq_true_iff]
      exact h b (Nat.le_refl _) (by omega)
theorem has31 : ∀ m, m ≤ 30 → hasN (30 + 1) (nI m) = true := by decide +kernel
theorem bas_ok {sh k bct : Nat} {bl β : Nat → Nat} {T : Nat → Int64} (hS : shOk sh k) (hβ : ∀ j, β j ≤ 30) (hbl : ∀ j, bl j ≤ 5) (hT : ∀ u, u < bct → T (5 + 6 * u) = lN (bl u) ∧ ∀ i, i < bl u → T (5 + 6 * u + 1 + i) = lN (β (u * 5 + i))) : stB (fun j => nI (β j)) sh k bl bct 0 = true ↔ arB (plN sh k) bct T := by
  obtain ⟨b1, b2, b3, b4, b5, b6⟩ := shOk_b hS
  have h5 : plN sh k ≤ 5 := by
    rcases hS with ⟨h1, h2⟩ | ⟨h1, h2, h3⟩ | ⟨h1, h2, h3⟩ | ⟨h1, h2, h3⟩ <;> subst h1
    · subst h2; decide
    · show k + 1 ≤ 5; omega
    · show k + 1 ≤ 5; omega
    · show k ≤ 5; omega
  rw [stB_iff]
  constructor
  · intro h u hu
    obtain ⟨h1, h2⟩ := h u (Nat.zero_le _) (by omega)
    obtain ⟨t1, t2⟩ := hT u hu
    rw [h1] at t1 t2
    refine ⟨t1, fun i hi j hj e => ?_⟩
    rw [t2 i hi, t2 j (by omega)] at e
    have e2 := (lN_eqI (by have := hβ (u * 5 + i); omega) (by have := hβ (u * 5 + j); omega)).mp e
    unfold telN at h2
    rw [decide_eq_true_iff] at h2
    have := (h2 i (by omega)).2 j hj
    exact this (by show nI (β (u * 5 + j)) = nI (β (u * 5 + i)); rw [e2])
  · intro h u _ hu
    obtain ⟨h1, h2⟩ := h u (by omega)
    obtain ⟨t1, t2⟩ := hT u (by omega)
    have hbu := hbl u
    have e : bl u = plN sh k := (lN_eqI (by omega) (by omega)).mp (t1.symm.trans h1)
    refine ⟨e, ?_⟩
    unfold telN
    rw [decide_eq_true_iff]
    intro i hi
    refine ⟨has31 _ (hβ _), fun j hj w => ?_⟩
    have w : nI (β (u * 5 + j)) = nI (β (u * 5 + i)) := w
    have w2 := (nI_eq (by have := hβ (u * 5 + j); omega) (by have := hβ (u * 5 + i); omega)).mp w
    apply h2 i (by omega) j hj
    rw [t2 i hi, t2 j (by omega), w2]
/-- both sides' networks -/
def eqS (N : NS) (Y : MN) : Prop :=
  (Y.1 = N.1 ∧ Y.2.1 = N.2.1 ∧ Y.2.2.1 = N.2.2.1 ∧ Y.2.2.2.1 = N.2.2.2.1 ∧ Y.2.2.2.2.1 = N.2.2.2.2.1 ∧ Y.2.2.2.2.2.1 = N.2.2.2.2.2.1) ∧ (∀ j, j < N.2.2.2.2.1 → N.2.2.2.2.2.2.1 j = Y.2.2.2.2.2.2.1 j) ∧ (∃ bN : Nat → Nat, N.2.2.2.2.2.2.2.1 = (fun j => nI (bN j)) ∧ bsOk Y bN) ∧ 2 ≤ N.1 ∧ N.1 ≤ 11 ∧ shOk N.2.2.1 N.2.2.2.1 ∧ ok55 N.2.1 ∧ ptsOk N.1 N.2.1 N.2.2.1 N.2.2.2.1 N.2.2.2.2.1 N.2.2.2.2.2.2.1
theorem eqS_B {N : NS} {Y : MN} (h : eqS N Y) (f : Nat → Int32) : eqS (nsB N f) Y := h
theorem set_core {shd : Bool} {pm bct n : Nat} {net : Int64} {sh k pc0 bc0 : Nat} {ps : Nat → Int64} {sf pn : Nat → Int32} {pl bl β : Nat → Nat} {T : Nat → Int64} {pnR : Nat → Int32} {plR : Nat → Nat} (x : Nat → Int32) (m : Nat) (h3 : bct ≤ 4) (h6 : ∀ j, bl j ≤ 5) (hp : ∀ p, p < pm → plR p = pl p ∧ ∀ i, i < pl p → pnR (5 * p + i) = pn (p * 5 + i)) (d1 : 2 ≤ n) (d2 : n ≤ 11) (d3 : shOk sh k) (d5 : ok55 net) (t0 : T 0 = lN n) (t1 : T 1 = lN sh) (t2 : T 2 = lN k) (t4 : T 4 = lN bct) (t5 : T 29 = net) (h9 : ∀ j, 5 ≤ j → j < 29 → ∃ m, m ≤ 30 ∧ T j = lN m) (b1 : ∀ j, β j ≤ 30) (b3 : ∀ u, u < bct → T (5 + 6 * u) = lN (bl u) ∧ ∀ i, i < bl u → T (5 + 6 * u + 1 + i) = lN (β (u * 5 + i))) :
    (stR pm bct n net sh k bc0 ps (fun j => nI (β j)) sf pn pl bl).1 = (arR2 sh k bct pm (arP n sh k net pnR plR pm 0 (lN 0) T x m)).1 ∧ ((stR pm bct n net sh k bc0 ps (fun j => nI (β j)) sf pn pl bl).1 = true → ∃ Y : MN, eqS (stR pm bct n net sh k bc0 ps (fun j => nI (β j)) sf pn pl bl).2 Y ∧ ∀ j, j < 90 → (arR2 sh k bct pm (arP n sh k net pnR plR pm 0 (lN 0) T x m)).2.1 j = nowF Y j) := by
  have hz : ∀ i, btL net i = (btL net i && !btL (lN 0) i) := fun i => by rw [lN0, btL_0]; cases btL net i <;> rfl
  obtain ⟨s1, s2⟩ := par_sim d3 d2 (by omega) hp (g := net) pm 0 net (lN 0) ps T x m (by omega) hz (fun j hj => absurd hj (Nat.not_lt_zero _)) ⟨fun i hi => absurd hi (Nat.not_lt_zero _), fun i hi => absurd hi (Nat.not_lt_zero _)⟩ (fun i hi => absurd hi (Nat.not_lt_zero _))
  have hB := bas_ok (bct := bct) (T := vp_updL (arP n sh k net pnR plR pm 0 (lN 0) T x m).2.1 3 (lN pm)) d3 b1 h6
  generalize hst : stP n sh k pn pl pm 0 net ps = st at *
  generalize har : arP n sh k net pnR plR pm 0 (lN 0) T x m = ar at *
  have eR : stR pm bct n net sh k bc0 ps (fun j => nI (β j)) sf pn pl bl = if stB (fun j => nI (β j)) sh k bl bct 0 = true then (st.1, (n, net, sh, k, st.2.1, bct, st.2.2, (fun j => nI (β j)), sf)) else (false, (n, net, sh, k, 0, bc0, ps, (fun j => nI (β j)), sf)) := by rw [← hst]; rfl
  have eR2 : arR2 sh k bct pm ar = if ar.1 = true then (decide (arB (plN sh k) bct (vp_updL ar.2.1 3 (lN pm))), vp_updL ar.2.1 3 (lN pm), ar.2.2) else (false, ar.2) := rfl
  rw [eR, eR2, s1]
  by_cases y : ar.1 = true
  · rw [if_pos y]
    obtain ⟨u1, u2, u3, u4⟩ := s2 (s1.trans y)
    rw [Nat.zero_add] at u1 u2 u3 u4
    have tk : ∀ j, j < 30 → j ≠ 3 → vp_updL ar.2.1 3 (lN pm) j = T j := fun j j1 j2 => by rw [pk_uLn j2, u3 j (Or.inl j1)]
    have hB := hB (fun u hu => by
      have := h6 u
      rw [tk _ (by omega) (by omega)]
      refine ⟨(b3 u hu).1, fun i hi => ?_⟩
      rw [tk _ (by omega) (by omega)]
      exact (b3 u hu).2 i hi)
    by_cases w : stB (fun j => nI (β j)) sh k bl bct 0 = true
    · have w2 := hB.mp w
      rw [if_pos w, decide_eq_true w2]
      refine ⟨y, fun _ => ⟨(n, net, sh, k, pm, bct, fun j => vp_updL ar.2.1 3 (lN pm) (30 + j), fun j => (vp_updL ar.2.1 3 (lN pm) (5 + j)).toNatClampNeg), ⟨⟨rfl, rfl, rfl, rfl, u1.symm, rfl⟩, fun j hj => ?_, ⟨β, rfl, h3, b1, fun u hu => ?_⟩, d1, d2, d3, d5, ?_⟩, fun j hj => ?_⟩⟩
      · have hj : j < st.2.1 := hj
        show st.2.2 j = vp_updL ar.2.1 3 (lN pm) (30 + j)
        rw [pk_uLn (by omega), u2 j (by omega)]
      · have hu : u < bct := hu
        have hbl : bl u ≤ 5 := h6 u
        have e := (stB_iff bct 0).mp w u (Nat.zero_le _) (by omega)
        show (vp_updL ar.2.1 3 (lN pm) (5 + 6 * u)).toNatClampNeg = plN sh k ∧ ∀ i, i < plN sh k → (vp_updL ar.2.1 3 (lN pm) (5 + (6 * u + 1 + i))).toNatClampNeg = β (u * 5 + i)
        obtain ⟨c1, c2⟩ := b3 u hu
        refine ⟨?_, fun i hi => ?_⟩
        · rw [tk _ (by omega) (by omega), c1, lN_clamp (by omega)]; exact e.1
        · rw [← e.1] at hi
          rw [show 5 + (6 * u + 1 + i) = 5 + 6 * u + 1 + i by omega, tk _ (by omega) (by omega), c2 i hi, lN_clamp (by have := b1 (u * 5 + i); omega)]
      · show ptsOk n net sh k st.2.1 st.2.2
        rw [u1]; exact u4
      · show vp_updL ar.2.1 3 (lN pm) j = if j = 0 then lN n else if j = 1 then lN sh else if j = 2 then lN k else if j = 3 then lN pm else if j = 4 then lN bct else if j < 29 then lN ((vp_updL ar.2.1 3 (lN pm) (5 + (j - 5))).toNatClampNeg) else if j = 29 then net else vp_updL ar.2.1 3 (lN pm) (30 + (j - 30))
        by_cases j0 : j = 0
        · subst j0; rw [if_pos rfl, tk 0 (by omega) (by omega)]; exact t0
        rw [if_neg j0]
        by_cases j1 : j = 1
        · subst j1; rw [if_pos rfl, tk 1 (by omega) (by omega)]; exact t1
        rw [if_neg j1]
        by_cases j2 : j = 2
        · subst j2; rw [if_pos rfl, tk 2 (by omega) (by omega)]; exact t2
        rw [if_neg j2]
        by_cases j3 : j = 3
        · subst j3; rw [if_pos rfl, pk_uLs]
        rw [if_neg j3]
        by_cases j4 : j = 4
        · subst j4; rw [if_pos rfl, tk 4 (by omega) (by omega)]; exact t4
        rw [if_neg j4]
        by_cases j5 : j < 29
        · rw [if_pos j5, show 5 + (j - 5) = j by omega, tk j (by omega) j3]
          obtain ⟨m, m1, m2⟩ := h9 j (by omega) j5
          rw [m2, lN_clamp (by omega)]
        rw [if_neg j5]
        by_cases j6 : j = 29
        · subst j6; rw [if_pos rfl, tk 29 (by omega) (by omega)]; exact t5
        rw [if_neg j6, show 30 + (j - 30) = j by omega]
    · have w2 : ¬ arB (plN sh k) bct (vp_updL ar.2.1 3 (lN pm)) := fun v => w (hB.mpr v)
      rw [if_neg w, decide_eq_false w2]
      exact ⟨rfl, fun v => by cases v⟩
  · rw [if_neg y, Bool.eq_false_iff.mpr y]
    by_cases w : stB (fun j => nI (β j)) sh k bl bct 0 = true
    · rw [if_pos w]; exact ⟨rfl, fun v => by cases v⟩
    · rw [if_neg w]; exact ⟨rfl, fun v => by cases v⟩
theorem stR_bs (pct bct n : Nat) (g : Int64) (sh k bc0 : Nat) (ps : Nat → Int64) (bs sf pn : Nat → Int32) (pl bl : Nat → Nat) : (stR pct bct n g sh k bc0 ps bs sf pn pl bl).2.2.2.2.2.2.2.2.1 = bs := by
  unfold stR
  by_cases q : stB bs sh k bl bct 0 = true
  · rw [if_pos q]
  · rw [if_neg q]
theorem set_W {s : RS} (h : rsW s) : rsW (setR s).2 := by
  obtain ⟨w1, w2, w3, β, w4, w5⟩ := h
  exact ⟨w1, w2, w3, β, w4, (stR_bs _ _ _ _ _ _ _ _ _ _ _ _ _).trans w5⟩
theorem set_sim {len q v : Nat} {B : Nat → Int32} {R : RT} {g : GT} (hd : datR R g) (c : G3) :
    (setR (cst len B q v R)).1 = (arR R.2.2.2.1.1 R.2.2.2.1.2.2.1 R.2.2.2.1.2.2.2.1 R.2.2.1 (gst len (tkS len B q) B g) c).1 ∧
    ((setR (cst len B q v R)).1 = true → ∃ Y : MN, eqS (rsD (setR (cst len B q v R)).2) Y ∧ ∀ j, j < 90 → (arR R.2.2.2.1.1 R.2.2.2.1.2.2.1 R.2.2.2.1.2.2.2.1 R.2.2.1 (gst len (tkS len B q) B g) c).2.1 j = nowF Y j) := by
  obtain ⟨⟨h1, h2, h3, h4, h5, h6⟩, hp, ⟨d1, d2, d3, d4, d5, d6⟩, ⟨t0, t1, t2, t3, t4, t5, t6⟩, h9, β, b1, b2, b3⟩ := hd
  have key := set_core (shd := R.1) (pc0 := R.2.2.2.1.2.2.2.2.1) (bc0 := R.2.2.2.1.2.2.2.2.2.1) (ps := R.2.2.2.1.2.2.2.2.2.2.1) (sf := R.2.2.2.1.2.2.2.2.2.2.2.2) (pn := R.2.2.2.2.1) (plR := g.2.2.1) c.1 c.2 h3 h6 hp d1 d2 d3 d5 t0 t1 t2 t4 t5 h9 b1 b3
  have eA : arR R.2.2.2.1.1 R.2.2.2.1.2.2.1 R.2.2.2.1.2.2.2.1 R.2.2.1 (gst len (tkS len B q) B g) c = arR2 R.2.2.2.1.2.2.1 R.2.2.2.1.2.2.2.1 R.2.2.1 R.2.1 (arP R.2.2.2.1.1 R.2.2.2.1.2.2.1 R.2.2.2.1.2.2.2.1 R.2.2.2.1.2.1 g.2.1 g.2.2.1 R.2.1 0 (lN 0) g.1 c.1 c.2) := by rw [← t5, ← h2]; rfl
  rw [← b2] at key
  rw [eA]
  exact key
