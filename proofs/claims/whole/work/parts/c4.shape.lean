/-! ===== reading: a shape; a row of nodes ===== -/
theorem lo_triangle : loB "triangle".toList = true := by decide +kernel
theorem lo_path : loB "path".toList = true := by decide +kernel
theorem lo_star : loB "star".toList = true := by decide +kernel
theorem lo_ring : loB "ring".toList = true := by decide +kernel
theorem lo_all : loB "all".toList = true := by decide +kernel
theorem lo_line : loB "line".toList = true := by decide +kernel
theorem lo_less : loB "less".toList = true := by decide +kernel
theorem lo_shape : loB "shape".toList = true := by decide +kernel
theorem lo_part : loB "part".toList = true := by decide +kernel
theorem lo_base : loB "base".toList = true := by decide +kernel
theorem lo_nodes : loB "nodes".toList = true := by decide +kernel
theorem dat_shape {R : RT} {g : GT} (h : datR R g) {sh k : Nat} (hS : shOk sh k) (hs : R.1 = true) : datR (R.1, R.2.1, R.2.2.1, (R.2.2.2.1.1, R.2.2.2.1.2.1, sh, k, R.2.2.2.1.2.2.2.2), R.2.2.2.2) (vp_updL (vp_updL g.1 1 (lN sh)) 2 (lN k), g.2) := by
  obtain ⟨h1, h2, ⟨h3, h4, h5, h6, h7, h8⟩, ⟨t0, t1, t2, t3, t4, t5, t6⟩, h9, β, b1, b2, b3⟩ := h
  have e : ∀ j, j ≠ 1 → j ≠ 2 → vp_updL (vp_updL g.1 1 (lN sh)) 2 (lN k) j = g.1 j := fun j j1 j2 => by rw [pk_uLn j2, pk_uLn j1]
  refine ⟨h1, h2, ⟨h3, h4, hS, fun z => ?_, h7, h8⟩, ⟨?_, ?_, ?_, ?_, ?_, ?_, fun j j1 j2 => ?_⟩, fun j j1 j2 => ?_, β, b1, b2, fun u hu => ?_⟩
  · have z : R.1 = false := z
    rw [hs] at z; cases z
  · show vp_updL (vp_updL g.1 1 (lN sh)) 2 (lN k) 0 = _; rw [e 0 (by omega) (by omega)]; exact t0
  · show vp_updL (vp_updL g.1 1 (lN sh)) 2 (lN k) 1 = lN sh; rw [pk_uLn (by omega), pk_uLs]
  · show vp_updL (vp_updL g.1 1 (lN sh)) 2 (lN k) 2 = lN k; rw [pk_uLs]
  · show vp_updL (vp_updL g.1 1 (lN sh)) 2 (lN k) 3 = _; rw [e 3 (by omega) (by omega)]; exact t3
  · show vp_updL (vp_updL g.1 1 (lN sh)) 2 (lN k) 4 = _; rw [e 4 (by omega) (by omega)]; exact t4
  · show vp_updL (vp_updL g.1 1 (lN sh)) 2 (lN k) 29 = _; rw [e 29 (by omega) (by omega)]; exact t5
  · show vp_updL (vp_updL g.1 1 (lN sh)) 2 (lN k) j = _; rw [e j (by omega) (by omega)]; exact t6 j j1 j2
  · show ∃ m, m ≤ 30 ∧ vp_updL (vp_updL g.1 1 (lN sh)) 2 (lN k) j = _; rw [e j (by omega) (by omega)]; exact h9 j j1 j2
  · have hu : u < R.2.2.1 := hu
    obtain ⟨c1, c2⟩ := b3 u hu
    refine ⟨?_, fun i hi => ?_⟩
    · show vp_updL (vp_updL g.1 1 (lN sh)) 2 (lN k) (5 + 6 * u) = _; rw [e _ (by omega) (by omega)]; exact c1
    · show vp_updL (vp_updL g.1 1 (lN sh)) 2 (lN k) (5 + 6 * u + 1 + i) = _; rw [e _ (by omega) (by omega)]; exact c2 i hi
/-- a size is asked for; p: behind the shape's word -/
theorem siz_sim {len p : Nat} {B : Nat → Int32} {p0 : Nat} (hp : p ≤ len) (hp0 : p0 < p) (v : Nat) (hv : v ≤ 1000) (R : RT) (g : GT) (hd : datR R g) (hs1 : R.1 = true) {sh lo hi : Nat} (hh : hi < 1000) (hS : ∀ k, lo ≤ k → k ≤ hi → shOk sh k) (h0 : ¬ lN sh = -1) (hl0 : ¬ lN sh = lN 0) (hsz : (if lN sh = lN 3 then numM 3 5 (-1) (bT (gst len p B g) (vp_updL g.1 1 (lN sh))) else numM 1 4 (-1) (bT (gst len p B g) (vp_updL g.1 1 (lN sh)))) = numM lo hi (-1) (bT (gst len p B g) (vp_updL g.1 1 (lN sh)))) (s : RS) (hs : advR len B s = cst len B p v R) : MR len B p0 R.2.1 (sizR len B sh lo hi s) (shZ (lN sh) (gst len p B g)) := by
  have hD : rsD s = R.2.2.2.1 := by have := congrArg rsD hs; exact this
  obtain ⟨t1, t2, t3⟩ := tkE_le (B := B) hp
  have hV := tkV_le (B := B) hp hv
  unfold sizR
  rw [hs, hD]
  have ez : shZ (lN sh) (gst len p B g) = shZ2 (numM lo hi (-1) (gst len p B (vp_updL g.1 1 (lN sh), g.2))) := by
    unfold shZ
    rw [if_neg h0, if_neg hl0]
    exact congrArg shZ2 hsz
  rw [ez]
  rcases num_w (B := B) (lo := lo) (hi := hi) hp hh v (-1) (vp_updL g.1 1 (lN sh), g.2) with ⟨k, a1, a2, a3, e⟩ | ⟨k, a, x, e⟩ | ⟨k, e⟩
  · have en : numB lo hi (cst len B p v R) = true := decide_eq_true ⟨k, a1, a2⟩
    rw [if_pos en, e]
    refine Or.inr ⟨rfl, tkE len B p, tkV len B p v, (R.1, R.2.1, R.2.2.1, (R.2.2.2.1.1, R.2.2.2.1.2.1, sh, tkV len B p v, R.2.2.2.1.2.2.2.2), R.2.2.2.2), rfl, hV, t3, by omega, ?_, Or.inl ⟨(vp_updL (vp_updL g.1 1 (lN sh)) 2 (lN (tkV len B p v)), g.2), dat_shape hd (hS _ a1 a2) hs1, Or.inl rfl⟩⟩
    show 6 * R.2.1 + p0 ≤ 6 * R.2.1 + tkE len B p + 1; omega
  · have a' : ¬ (lo ≤ tkV len B p v ∧ tkV len B p v ≤ hi) := fun z => a ⟨z.1, z.2, nI_m1 (by omega)⟩
    have en : ¬ numB lo hi (cst len B p v R) = true := fun z => a' (of_decide_eq_true z).2
    rw [if_neg en, e]
    refine Or.inl ⟨rfl, ?_⟩
    have q1 : nuP (tkK len B p) (tkV len B p v) lo hi (tkS len B p) (-1) = nI (tkS len B p) := if_neg (fun z => a' z.2)
    have q2 : nuF (tkK len B p) (tkV len B p v) lo hi 0 = 2 := by unfold nuF; rw [if_pos k, if_neg a']
    exact ⟨q2.symm, by show ¬ nuF (tkK len B p) (tkV len B p v) lo hi 0 = 0; rw [q2]; omega, by show nuF (tkK len B p) (tkV len B p v) lo hi 0 ≤ 4; rw [q2]; omega, q1.symm, dat_W hd hV⟩
  · have en : ¬ numB lo hi (cst len B p v R) = true := fun z => k (of_decide_eq_true z).1
    rw [if_neg en, e]
    refine Or.inl ⟨rfl, ?_⟩
    have q1 : nuP (tkK len B p) (tkV len B p v) lo hi (tkS len B p) (-1) = nI (tkS len B p) := if_neg (fun z => k z.1)
    have q2 : nuF (tkK len B p) (tkV len B p v) lo hi 0 = 1 := if_neg k
    exact ⟨q2.symm, by show ¬ nuF (tkK len B p) (tkV len B p v) lo hi 0 = 0; rw [q2]; omega, by show nuF (tkK len B p) (tkV len B p v) lo hi 0 ≤ 4; rw [q2]; omega, q1.symm, dat_W hd hV⟩
theorem sh_word {len p : Nat} {B : Nat → Int32} (hp : p ≤ len) (hB : bKn B) (v : Nat) (R : RT) (g : GT) {w : String} (hw : loB w.toList = true) {b : G1} (hb : b = gst len p B g ∨ b = gst len (tkS len B p) B g) : tkB b w = wrdR B w (cst len B p v R) ∧ (wrdR B w (cst len B p v R) = true → tkM b w = gst len (tkE len B p) B g) ∧ (¬ wrdR B w (cst len B p v R) = true → tkM b w = gst len (tkS len B p) B g) := by
  rcases hb with hb | hb
  · obtain ⟨h1, h2⟩ := tk_w hp hB hw v R g
    rw [hb]
    exact ⟨h1, fun z => by rw [h2, if_pos z], fun z => by rw [h2, if_neg z]⟩
  · obtain ⟨h1, h2⟩ := tk_w (len := len) (p := tkS len B p) (by have := tkS_b (B := B) hp; omega) hB hw v R g
    rw [cst_id hp] at h1 h2
    rw [hb]
    refine ⟨h1, fun z => by rw [h2, if_pos z, (tk_id (B := B) hp v).1], fun z => by rw [h2, if_neg z, tkS_id hp]⟩
/-- p: behind the word shape -/
theorem shp_sim {len p : Nat} {B : Nat → Int32} {p0 : Nat} (hp : p ≤ len) (hB : bKn B) (hp0 : p0 < p) (v : Nat) (hv : v ≤ 1000) (R : RT) (g : GT) (hd : datR R g) (hs1 : R.1 = true) (h03 : R.2.2.2.1.2.2.1 = 0 ∧ R.2.2.2.1.2.2.2.1 = 3) : MR len B p0 R.2.1 (shpN len B (cst len B p v R)) (shW (gst len p B g)) := by
  obtain ⟨t1, t2, t3⟩ := tkE_le (B := B) hp
  have hV := tkV_le (B := B) hp hv
  have w1 := sh_word hp hB v R g lo_triangle (b := gst len p B g) (Or.inl rfl)
  unfold shpN shW
  rw [w1.1]
  by_cases q1 : wrdR B "triangle" (cst len B p v R) = true
  · rw [if_pos q1, if_pos q1, w1.2.1 q1]
    have ez : shZ (lN 0) (gst len (tkE len B p) B g) = gst len (tkE len B p) B (vp_updL (vp_updL g.1 1 (lN 0)) 2 (lN 3), g.2) := by
      unfold shZ
      rw [if_neg (by decide), if_pos rfl]
      rfl
    rw [ez]
    refine Or.inr ⟨rfl, tkE len B p, tkV len B p v, R, rfl, hV, t3, ?_, by omega, Or.inl ⟨_, ?_, Or.inl rfl⟩⟩
    · omega
    · have := dat_shape hd (sh := 0) (k := 3) (Or.inl ⟨rfl, rfl⟩) hs1
      obtain ⟨r1, r2, r3, ⟨d1, d2, d3, d4, d5⟩, r5⟩ := R
      obtain ⟨e1, e2⟩ := h03
      have e1 : d3 = 0 := e1
      have e2 : d4 = 3 := e2
      subst e1 e2
      exact this
  · rw [if_neg q1, if_neg q1, w1.2.2 q1]
    have w2 := sh_word hp hB v R g lo_path (b := gst len (tkS len B p) B g) (Or.inr rfl)
    rw [w2.1]
    by_cases q2 : wrdR B "path" (cst len B p v R) = true
    · rw [if_pos q2, if_pos q2, w2.2.1 q2]
      exact siz_sim t3 (by omega) _ hV R g hd hs1 (by omega) (fun k a b => Or.inr (Or.inl ⟨rfl, a, b⟩)) (by decide) (by decide) (if_neg (by decide)) _ (cst_adv _ _ _ _ _)
    · rw [if_neg q2, if_neg q2, w2.2.2 q2]
      have w3 := sh_word hp hB v R g lo_star (b := gst len (tkS len B p) B g) (Or.inr rfl)
      rw [w3.1]
      by_cases q3 : wrdR B "star" (cst len B p v R) = true
      · rw [if_pos q3, if_pos q3, w3.2.1 q3]
        exact siz_sim t3 (by omega) _ hV R g hd hs1 (by omega) (fun k a b => Or.inr (Or.inr (Or.inl ⟨rfl, a, b⟩))) (by decide) (by decide) (if_neg (by decide)) _ (cst_adv _ _ _ _ _)
      · rw [if_neg q3, if_neg q3, w3.2.2 q3]
        have w4 := sh_word hp hB v R g lo_ring (b := gst len (tkS len B p) B g) (Or.inr rfl)
        rw [w4.1]
        by_cases q4 : wrdR B "ring" (cst len B p v R) = true
        · rw [if_pos q4, if_pos q4, w4.2.1 q4]
          exact siz_sim t3 (by omega) _ hV R g hd hs1 (by omega) (fun k a b => Or.inr (Or.inr (Or.inr ⟨rfl, a, b⟩))) (by decide) (by decide) (if_pos rfl) _ (cst_adv _ _ _ _ _)
        · rw [if_neg q4, if_neg q4, w4.2.2 q4]
          have ez : (shZ (-1) (gst len (tkS len B p) B g)).2.2.1 = 1 ∧ (shZ (-1) (gst len (tkS len B p) B g)).2.2.2.1 = nI (tkS len B p) := by
            unfold shZ
            rw [if_pos rfl]
            have ew : bWr (bT (gst len (tkS len B p) B g) (vp_updL (gst len (tkS len B p) B g).2.2.2.2.2.1 1 (-1))) 1 (nI (gst len (tkS len B p) B g).2.1) = gfl len (tkS len B p) 1 (nI (tkS len B p)) B (vp_updL g.1 1 (-1), g.2) := if_pos rfl
            rw [ew, fz_num (by show ¬ (1 : Nat) = 0; omega)]
            exact ⟨rfl, rfl⟩
          refine Or.inl ⟨rfl, ez.1, by show ¬ (1 : Nat) = 0; omega, by show 1 ≤ 4; omega, ez.2, dat_W hd hV⟩
/-! a row of nodes -/
theorem rn_sim {len : Nat} {B : Nat → Int32} (hB : bKn B) {most LEN fr : Nat} (hm : most ≤ 30) (hL : fr + 5 ≤ LEN) (R : RT) (g : GT) (hd : datR R g) : ∀ (z c p v : Nat) (row x : Nat → Int32), c + z = 5 → p ≤ len → v ≤ 1000 →
    ((rnR len B LEN fr most z c (-1) 0 (tkS len B p) (tkE len B p) (tkK len B p) (tkV len B p v) row).1 = 0 ∧ ∃ (fp : Int32) (flt st en kd vl : Nat) (row' : Nat → Int32), rnR len B LEN fr most z c (-1) 0 (tkS len B p) (tkE len B p) (tkK len B p) (tkV len B p v) row = (0, fp, flt, st, en, kd, vl, row') ∧ vl ≤ 1000 ∧ ¬ flt = 0 ∧ flt ≤ 4 ∧ (rnM most (z + 1) (gst len p B g) (x, c)).1.2.2.1 = flt ∧ (rnM most (z + 1) (gst len p B g) (x, c)).1.2.2.2.1 = fp ∧ ((∀ j, ∃ m, m ≤ 30 ∧ row j = nI m) → ∀ j, ∃ m, m ≤ 30 ∧ row' j = nI m)) ∨
    (∃ (cn p' v' : Nat) (row' x' : Nat → Int32), rnR len B LEN fr most z c (-1) 0 (tkS len B p) (tkE len B p) (tkK len B p) (tkV len B p v) row = (cn, -1, 0, tkS len B p', tkE len B p', tkK len B p', tkV len B p' v', row') ∧ v' ≤ 1000 ∧ c ≤ cn ∧ 0 < cn ∧ cn ≤ 5 ∧ p ≤ p' ∧ p' ≤ len ∧ (c < cn → p < p') ∧ (∀ j, j < fr + c ∨ fr + cn ≤ j → row' j = row j) ∧ (∀ i, c ≤ i → i < cn → ∃ m, m ≤ most ∧ row' (fr + i) = nI m ∧ x' i = nI m) ∧ (∀ i, i < c → x' i = x i) ∧
      ((rnM most (z + 1) (gst len p B g) (x, c) = (gst len (tkS len B p') B g, x', cn)) ∨ (tkK len B p' = 2 ∧ (rnM most (z + 1) (gst len p B g) (x, c)).1.2.2.1 = 1 ∧ (rnM most (z + 1) (gst len p B g) (x, c)).1.2.2.2.1 = nI (tkS len B p')))) := by
  intro z
  induction z with
  | zero =>
    intro c p v row x hc hp hv
    right
    have hc5 : c = 5 := by omega
    subst hc5
    refine ⟨5, p, v, row, x, rfl, hv, by omega, by omega, by omega, Nat.le_refl _, hp, fun z => by omega, fun _ _ => rfl, fun i i1 i2 => by omega, fun _ _ => rfl, ?_⟩
    have hd2 : dgB (byM (gst len p B g) (tkP (gst len p B g))) = true ↔ tkK len B p = 2 := by
      rw [gst_P, gst_by, tkK_2]
      by_cases q : tkS len B p < len
      · rw [if_pos q]; exact ⟨fun h => ⟨q, h⟩, fun h => h.2⟩
      · rw [if_neg q, dg_m1]; exact ⟨(fun h => (by cases h)), fun h => absurd h.1 q⟩
    by_cases q : tkK len B p = 2
    · right
      have e : rnM most (0 + 1) (gst len p B g) (x, 5) = (bWr (heB (gst len p B g)) 1 (nI (tkP (gst len p B g))), x, 5) := by
        show (if (0 : Nat) = 0 then (if (5 : Nat) = 0 ∨ dgB (byM (gst len p B g) (tkP (gst len p B g))) = true then (if (5 : Nat) = 5 then (bWr (heB (gst len p B g)) 1 (nI (tkP (gst len p B g))), (x, 5)) else _) else _) else _) = _
        rw [if_pos rfl, if_pos (Or.inr (hd2.mpr q)), if_pos rfl]
      rw [e]
      exact ⟨q, rfl, rfl⟩
    · left
      show (if (0 : Nat) = 0 then (if (5 : Nat) = 0 ∨ dgB (byM (gst len p B g) (tkP (gst len p B g))) = true then _ else (heB (gst len p B g), (x, 5))) else _) = _
      rw [if_pos rfl, if_neg (fun h => by rcases h with h | h; omega; exact q (hd2.mp h))]
      rfl
  | succ z ih =>
    intro c p v row x hc hp hv
    obtain ⟨t1, t2, t3⟩ := tkE_le (B := B) hp
    have hV := tkV_le (B := B) hp hv
    have hd2 : dgB (byM (gst len p B g) (tkP (gst len p B g))) = true ↔ tkK len B p = 2 := by
      rw [gst_P, gst_by, tkK_2]
      by_cases q : tkS len B p < len
      · rw [if_pos q]; exact ⟨fun h => ⟨q, h⟩, fun h => h.2⟩
      · rw [if_neg q, dg_m1]; exact ⟨(fun h => (by cases h)), fun h => absurd h.1 q⟩
    have er : rnR len B LEN fr most (z + 1) c (-1) 0 (tkS len B p) (tkE len B p) (tkK len B p) (tkV len B p v) row = if 0 < c ∧ ¬ tkK len B p = 2 then (c, -1, 0, tkS len B p, tkE len B p, tkK len B p, tkV len B p v, row) else if nuB (tkK len B p) (tkV len B p v) 0 most = true then rnR len B LEN fr most z (c + 1) (-1) 0 (tkS len B (tkE len B p)) (tkE len B (tkE len B p)) (tkK len B (tkE len B p)) (tkV len B (tkE len B p) (tkV len B p v)) (if fr + c < LEN then upd row (fr + c) (nI (tkV len B p v)) else row) else (0, nuP (tkK len B p) (tkV len B p v) 0 most (tkS len B p) (-1), nuF (tkK len B p) (tkV len B p v) 0 most 0, tkS len B p, tkE len B p, tkK len B p, tkV len B p v, row) := rfl
    by_cases q : 0 < c ∧ ¬ tkK len B p = 2
    · right
      rw [er, if_pos q]
      refine ⟨c, p, v, row, x, rfl, hv, Nat.le_refl _, q.1, by omega, Nat.le_refl _, hp, fun z => by omega, fun _ _ => rfl, fun i i1 i2 => by omega, fun _ _ => rfl, Or.inl ?_⟩
      show (if (0 : Nat) = 0 then (if c = 0 ∨ dgB (byM (gst len p B g) (tkP (gst len p B g))) = true then _ else (heB (gst len p B g), (x, c))) else _) = _
      rw [if_pos rfl, if_neg (fun h => by rcases h with h | h; omega; exact q.2 (hd2.mp h))]
      rfl
    · rw [er, if_neg q]
      have hcond : c = 0 ∨ dgB (byM (gst len p B g) (tkP (gst len p B g))) = true := by
        by_cases y : c = 0
        · exact Or.inl y
        · exact Or.inr (hd2.mpr (Decidable.byContradiction fun w => q ⟨by omega, w⟩))
      have eb : (if c = 0 then gst len p B g else heB (gst len p B g)) = gst len p B g ∨ (if c = 0 then gst len p B g else heB (gst len p B g)) = gst len (tkS len B p) B g := by
        by_cases y : c = 0
        · rw [if_pos y]; exact Or.inl rfl
        · rw [if_neg y]; exact Or.inr rfl
      have em : rnM most (z + 1 + 1) (gst len p B g) (x, c) = if (numM 0 most (-1) (if c = 0 then gst len p B g else heB (gst len p B g))).2.2.2.1 = 0 then rnM most (z + 1) (numM 0 most (-1) (if c = 0 then gst len p B g else heB (gst len p B g))).2 (upd x c (nI (numM 0 most (-1) (if c = 0 then gst len p B g else heB (gst len p B g))).1), c + 1) else ((numM 0 most (-1) (if c = 0 then gst len p B g else heB (gst len p B g))).2, (x, c)) := by
        show (if (0 : Nat) = 0 then (if c = 0 ∨ dgB (byM (gst len p B g) (tkP (gst len p B g))) = true then (if c = 5 then _ else if (numM 0 most (-1) (if c = 0 then gst len p B g else heB (gst len p B g))).2.2.2.1 = 0 then _ else _) else _) else _) = _
        rw [if_pos rfl, if_pos hcond, if_neg (by omega)]
      -- the number, from either place
      have nw : (tkK len B p = 2 ∧ tkV len B p v ≤ most ∧ numM 0 most (-1) (if c = 0 then gst len p B g else heB (gst len p B g)) = (tkV len B p v, gst len (tkE len B p) B g)) ∨ (nuB (tkK len B p) (tkV len B p v) 0 most = false ∧ ∃ y a, numM 0 most (-1) (if c = 0 then gst len p B g else heB (gst len p B g)) = (y, gfl len a (nuF (tkK len B p) (tkV len B p v) 0 most 0) (nuP (tkK len B p) (tkV len B p v) 0 most (tkS len B p) (-1)) B g) ∧ ¬ nuF (tkK len B p) (tkV len B p v) 0 most 0 = 0 ∧ nuF (tkK len B p) (tkV len B p v) 0 most 0 ≤ 4) := by
        have base : ∀ b : G1, ((tkK len B p = 2 ∧ 0 ≤ tkV len B p v ∧ tkV len B p v ≤ most ∧ ¬ nI (tkV len B p v) = -1 ∧ numM 0 most (-1) b = (tkV len B p v, gst len (tkE len B p) B g)) ∨ (tkK len B p = 2 ∧ ¬ (0 ≤ tkV len B p v ∧ tkV len B p v ≤ most ∧ ¬ nI (tkV len B p v) = -1) ∧ ∃ x, numM 0 most (-1) b = (x, gfl len (tkE len B p) 2 (nI (tkS len B p)) B g)) ∨ (¬ tkK len B p = 2 ∧ numM 0 most (-1) b = (0, gfl len (tkS len B p) 1 (nI (tkS len B p)) B g))) → (tkK len B p = 2 ∧ tkV len B p v ≤ most ∧ numM 0 most (-1) b = (tkV len B p v, gst len (tkE len B p) B g)) ∨ (nuB (tkK len B p) (tkV len B p v) 0 most = false ∧ ∃ y a, numM 0 most (-1) b = (y, gfl len a (nuF (tkK len B p) (tkV len B p v) 0 most 0) (nuP (tkK len B p) (tkV len B p v) 0 most (tkS len B p) (-1)) B g) ∧ ¬ nuF (tkK len B p) (tkV len B p v) 0 most 0 = 0 ∧ nuF (tkK len B p) (tkV len B p v) 0 most 0 ≤ 4) := by
          intro b h
          rcases h with ⟨k, a1, a2, a3, e⟩ | ⟨k, a, y, e⟩ | ⟨k, e⟩
          · exact Or.inl ⟨k, a2, e⟩
          · right
            have a' : ¬ (0 ≤ tkV len B p v ∧ tkV len B p v ≤ most) := fun w => a ⟨w.1, w.2, nI_m1 (by omega)⟩
            have q1 : nuP (tkK len B p) (tkV len B p v) 0 most (tkS len B p) (-1) = nI (tkS len B p) := if_neg (fun w => a' w.2)
            have q2 : nuF (tkK len B p) (tkV len B p v) 0 most 0 = 2 := by unfold nuF; rw [if_pos k, if_neg a']
            refine ⟨decide_eq_false (fun w => a' w.2), y, tkE len B p, ?_, by omega, by omega⟩
            rw [q1, q2]; exact e
          · right
            have q1 : nuP (tkK len B p) (tkV len B p v) 0 most (tkS len B p) (-1) = nI (tkS len B p) := if_neg (fun w => k w.1)
            have q2 : nuF (tkK len B p) (tkV len B p v) 0 most 0 = 1 := if_neg k
            refine ⟨decide_eq_false (fun w => k w.1), 0, tkS len B p, ?_, by omega, by omega⟩
            rw [q1, q2]; exact e
        rcases eb with eb | eb
        · rw [eb]; exact base _ (num_w hp (by omega) v (-1) g)
        · rw [eb]
          refine base _ ?_
          have := num_w (B := B) (len := len) (p := tkS len B p) (lo := 0) (hi := most) (by omega) (by omega) v (-1) g
          rw [tkS_id hp, (tk_id (B := B) hp v).1, (tk_id (B := B) hp v).2.1, (tk_id (B := B) hp v).2.2] at this
          exact this
      rcases nw with ⟨k, a2, e⟩ | ⟨n1, y, a, e, f1, f2⟩
      · have en : nuB (tkK len B p) (tkV len B p v) 0 most = true := decide_eq_true ⟨k, Nat.zero_le _, a2⟩
        rw [if_pos en, em, e, if_pos (show fr + c < LEN by omega)]
        have e3 : (if ((tkV len B p v, gst len (tkE len B p) B g) : Nat × G1).2.2.2.1 = 0 then rnM most (z + 1) ((tkV len B p v, gst len (tkE len B p) B g) : Nat × G1).2 (upd x c (nI ((tkV len B p v, gst len (tkE len B p) B g) : Nat × G1).1), c + 1) else (((tkV len B p v, gst len (tkE len B p) B g) : Nat × G1).2, (x, c))) = rnM most (z + 1) (gst len (tkE len B p) B g) (upd x c (nI (tkV len B p v)), c + 1) := if_pos rfl
        rw [e3]
        have hlt := (tkE_2 v k).2.2
        have hrow : (∀ j, ∃ m, m ≤ 30 ∧ row j = nI m) → ∀ j, ∃ m, m ≤ 30 ∧ upd row (fr + c) (nI (tkV len B p v)) j = nI m := fun h j => by
          by_cases w : j = fr + c
          · subst w; rw [pk_us]; exact ⟨_, by omega, rfl⟩
          · rw [pk_un w]; exact h j
        rcases ih (c + 1) (tkE len B p) (tkV len B p v) (upd row (fr + c) (nI (tkV len B p v))) (upd x c (nI (tkV len B p v))) (by omega) t3 hV with ⟨i1, fp, flt, st, en9, kd, vl, row', i2, i3, i4, i5, i6, i7, i8⟩ | ⟨cn, p', v', row', x', i1, i2, i3, i4, i5, i6, i7, i8, i9, i10, i11, i12⟩
        · exact Or.inl ⟨i1, fp, flt, st, en9, kd, vl, row', i2, i3, i4, i5, i6, i7, fun h => i8 (hrow h)⟩
        · right
          refine ⟨cn, p', v', row', x', i1, i2, by omega, i4, i5, by omega, i7, fun _ => by omega, fun j hj => ?_, fun i j1 j2 => ?_, fun i hi => ?_, i12⟩
          · rw [i9 j (by omega), pk_un (by omega)]
          · by_cases w : i = c
            · subst w
              refine ⟨tkV len B p v, a2, ?_, ?_⟩
              · rw [i9 _ (by omega), pk_us]
              · rw [i11 i (by omega), pk_us]
            · exact i10 i (by omega) j2
          · rw [i11 i (by omega), pk_un (by omega)]
      · left
        rw [if_neg (by rw [n1]; intro w; cases w), em, e]
        have e3 : (if ((y, gfl len a (nuF (tkK len B p) (tkV len B p v) 0 most 0) (nuP (tkK len B p) (tkV len B p v) 0 most (tkS len B p) (-1)) B g) : Nat × G1).2.2.2.1 = 0 then rnM most (z + 1) ((y, gfl len a (nuF (tkK len B p) (tkV len B p v) 0 most 0) (nuP (tkK len B p) (tkV len B p v) 0 most (tkS len B p) (-1)) B g) : Nat × G1).2 (upd x c (nI ((y, gfl len a (nuF (tkK len B p) (tkV len B p v) 0 most 0) (nuP (tkK len B p) (tkV len B p v) 0 most (tkS len B p) (-1)) B g) : Nat × G1).1), c + 1) else (((y, gfl len a (nuF (tkK len B p) (tkV len B p v) 0 most 0) (nuP (tkK len B p) (tkV len B p v) 0 most (tkS len B p) (-1)) B g) : Nat × G1).2, (x, c))) = (gfl len a (nuF (tkK len B p) (tkV len B p v) 0 most 0) (nuP (tkK len B p) (tkV len B p v) 0 most (tkS len B p) (-1)) B g, (x, c)) := if_neg f1
        rw [e3]
        exact ⟨rfl, _, _, _, _, _, _, _, rfl, hV, f1, f2, rfl, rfl, fun h => h⟩
