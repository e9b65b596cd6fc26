/-! ===== reading: parts and bases ===== -/
theorem pnM2_at (F : Nat → Int32) (pm : Nat) (x : Nat → Int32) : ∀ c j, pnM2 F pm x c j = if 5 * pm ≤ j ∧ j < 5 * pm + c then x (j - 5 * pm) else F j
  | 0, j => by rw [if_neg (by omega)]; rfl
  | c + 1, j => by
    show upd (pnM2 F pm x c) (5 * pm + c) (x c) j = _
    by_cases q : j = 5 * pm + c
    · subst q
      rw [pk_us, if_pos (by omega), show 5 * pm + c - 5 * pm = c by omega]
    · rw [pk_un q, pnM2_at F pm x c j]
      by_cases w : 5 * pm ≤ j ∧ j < 5 * pm + c
      · rw [if_pos w, if_pos (by omega)]
      · rw [if_neg w, if_neg (by omega)]
theorem bsM2_at (T : Nat → Int64) (q : Nat) (x : Nat → Int32) : ∀ c j, bsM2 T q x c j = if q + 1 ≤ j ∧ j < q + 1 + c then (x (j - (q + 1))).toInt64 else T j
  | 0, j => by rw [if_neg (by omega)]; rfl
  | c + 1, j => by
    show vp_updL (bsM2 T q x c) (q + 1 + c) (x c).toInt64 j = _
    by_cases z : j = q + 1 + c
    · subst z
      rw [pk_uLs, if_pos (by omega), show q + 1 + c - (q + 1) = c by omega]
    · rw [pk_uLn z, bsM2_at T q x c j]
      by_cases w : q + 1 ≤ j ∧ j < q + 1 + c
      · rw [if_pos w, if_pos (by omega)]
      · rw [if_neg w, if_neg (by omega)]
theorem row_beta {row : Nat → Int32} (h : ∀ j, ∃ m, m ≤ 30 ∧ row j = nI m) : ∃ β : Nat → Nat, (∀ j, β j ≤ 30) ∧ row = fun j => nI (β j) := ⟨fun j => (h j).choose, fun j => (h j).choose_spec.1, funext fun j => (h j).choose_spec.2⟩
theorem dat_part {R : RT} {g : GT} (h : datR R g) {cn most : Nat} {row' x' : Nat → Int32} (hcn : cn ≤ 5) (hr : ∀ j, j < R.2.1 * 5 ∨ R.2.1 * 5 + cn ≤ j → row' j = R.2.2.2.2.1 j) (hx : ∀ i, i < cn → ∃ m, m ≤ most ∧ row' (R.2.1 * 5 + i) = nI m ∧ x' i = nI m) : datR (R.1, R.2.1 + 1, R.2.2.1, R.2.2.2.1, row', updN R.2.2.2.2.2.1 R.2.1 cn, R.2.2.2.2.2.2) (g.1, pnM2 g.2.1 g.2.2.2.1 x' cn, updN g.2.2.1 g.2.2.2.1 cn, g.2.2.2.1 + 1, g.2.2.2.2) := by
  obtain ⟨shd, pct, bct, D, pn, pl, bl⟩ := R
  obtain ⟨T, pnR, plR, pm, shR⟩ := g
  obtain ⟨⟨h1, h2, h3, h4, h5, h6⟩, hp, hD, hT, h9, hβ⟩ := h
  have h2 : pm = pct := h2
  subst h2
  have hr : ∀ j, j < pm * 5 ∨ pm * 5 + cn ≤ j → row' j = pn j := hr
  have hx : ∀ i, i < cn → ∃ m, m ≤ most ∧ row' (pm * 5 + i) = nI m ∧ x' i = nI m := hx
  have h5 : ∀ j, pl j ≤ 5 := h5
  refine ⟨⟨h1, rfl, h3, updN_le h4 hcn, updN_le h5 hcn, h6⟩, fun p hp' => ?_, hD, hT, h9, hβ⟩
  show updN plR pm cn p = updN pl pm cn p ∧ ∀ i, i < updN pl pm cn p → pnM2 pnR pm x' cn (5 * p + i) = row' (p * 5 + i)
  have hp' : p < pm + 1 := hp'
  by_cases q : p = pm
  · subst q
    rw [updN_s, updN_s]
    refine ⟨rfl, fun i hi => ?_⟩
    obtain ⟨m, -, m1, m2⟩ := hx i hi
    rw [pnM2_at, if_pos (by omega), show 5 * p + i - 5 * p = i by omega, m2, m1]
  · rw [updN_n _ q, updN_n _ q]
    obtain ⟨a1, a2⟩ := hp p (show p < pm by omega)
    refine ⟨a1, fun i hi => ?_⟩
    have := h5 p
    rw [pnM2_at, if_neg (by omega), hr _ (by omega)]
    exact a2 i hi
theorem prt_sim {len p : Nat} {B : Nat → Int32} {p0 : Nat} (hlen : len ≤ 300) (hB : bKn B) (hp : p ≤ len) (hp0 : p0 + 4 ≤ p) (v : Nat) (hv : v ≤ 1000) (R : RT) (g : GT) (hd : datR R g) (h6 : 6 * R.2.1 ≤ p0) (c : G3) (s : RS) (hs : advR len B s = cst len B p v R) : MR len B p0 R.2.1 (prtR len B s) (prM R.2.2.2.1.1 (gst len p B g) c).1 := by
  have hD : rsD s = R.2.2.2.1 := by have := congrArg rsD hs; exact this
  have hPc : rsPc s = R.2.1 := by have := congrArg rsPc hs; exact this
  have hrow : s.2.2.2.2.2.2.2.2.2.2.1 = R.2.2.2.2.1 := by have := congrArg (fun z : RS => z.2.2.2.2.2.2.2.2.2.2.1) hs; exact this
  have hn : R.2.2.2.1.1 ≤ 11 := hd.2.2.1.2.1
  have h50 : R.2.1 < 50 := by omega
  unfold prtR
  rw [hD, hPc, hrow, hs]
  have er : rnS len B 250 (R.2.1 * 5) (R.2.2.2.1.1 - 1) (cst len B p v R) R.2.2.2.2.1 = rnR len B 250 (R.2.1 * 5) (R.2.2.2.1.1 - 1) 5 0 (-1) 0 (tkS len B p) (tkE len B p) (tkK len B p) (tkV len B p v) R.2.2.2.2.1 := rfl
  rw [er]
  unfold prM
  rcases rn_sim hB (most := R.2.2.2.1.1 - 1) (LEN := 250) (fr := R.2.1 * 5) (by omega) (by omega) R g hd 5 0 p v R.2.2.2.2.1 c.1 (by omega) hp hv with ⟨i1, fp, flt, st, en, kd, vl, row', e, hvl, f1, f2, f3, f4, f5⟩ | ⟨cn, p', v', row', x', e, hv', i3, i4, i5, i6, i7, i8, i9, i10, i11, i12⟩
  · have f3 : (rnM (R.2.2.2.1.1 - 1) 6 (gst len p B g) (c.1, 0)).1.2.2.1 = flt := f3
    have f4 : (rnM (R.2.2.2.1.1 - 1) 6 (gst len p B g) (c.1, 0)).1.2.2.2.1 = fp := f4
    rw [e, if_neg (show ¬ 0 < ((0, fp, flt, st, en, kd, vl, row') : RN).1 from Nat.lt_irrefl 0), if_neg (by rw [f3]; exact f1)]
    obtain ⟨w1, w2, w3, w4⟩ := dat_W hd (fp := fp) (flt := flt) (st := st) (en := en) (kd := kd) hvl
    exact Or.inl ⟨rfl, f3, f1, f2, f4, w1, w2, w3, w4⟩
  · have hlt := i8 i4
    have hdp := dat_part hd (most := R.2.2.2.1.1 - 1) (row' := row') (x' := x') i5 (fun j hj => i9 j (by omega)) (fun i hi => i10 i (by omega) hi)
    rw [e, if_pos (show 0 < ((cn, -1, 0, tkS len B p', tkE len B p', tkK len B p', tkV len B p' v', row') : RN).1 from i4), if_pos h50]
    refine Or.inr ⟨rfl, p', v', (R.1, R.2.1 + 1, R.2.2.1, R.2.2.2.1, row', updN R.2.2.2.2.2.1 R.2.1 cn, R.2.2.2.2.2.2), rfl, hv', i7, by omega, ?_, ?_⟩
    · show 6 * (R.2.1 + 1) + p0 ≤ 6 * R.2.1 + p' + 1; omega
    · rcases i12 with i12 | ⟨k2, g1, g2⟩
      · have i12 : rnM (R.2.2.2.1.1 - 1) 6 (gst len p B g) (c.1, 0) = (gst len (tkS len B p') B g, x', cn) := i12
        rw [i12, if_pos (show ((gst len (tkS len B p') B g, x', cn) : G1 × G3).1.2.2.1 = 0 from rfl)]
        exact Or.inl ⟨_, hdp, Or.inr rfl⟩
      · have g1 : (rnM (R.2.2.2.1.1 - 1) 6 (gst len p B g) (c.1, 0)).1.2.2.1 = 1 := g1
        have g2 : (rnM (R.2.2.2.1.1 - 1) 6 (gst len p B g) (c.1, 0)).1.2.2.2.1 = nI (tkS len B p') := g2
        rw [if_neg (by rw [g1]; omega)]
        exact Or.inr ⟨k2, g1, g2, _, hdp⟩
theorem dat_base {R : RT} {g : GT} (h : datR R g) (hb : R.2.2.1 < 4) {cn : Nat} {row' x' : Nat → Int32} (hcn : cn ≤ 5) (hr : ∀ j, j < R.2.2.1 * 5 ∨ R.2.2.1 * 5 + cn ≤ j → row' j = R.2.2.2.1.2.2.2.2.2.2.2.1 j) (hx : ∀ i, i < cn → ∃ m, m ≤ 30 ∧ row' (R.2.2.1 * 5 + i) = nI m ∧ x' i = nI m) : datR (R.1, R.2.1, R.2.2.1 + 1, nsR R.2.2.2.1 row', R.2.2.2.2.1, R.2.2.2.2.2.1, updN R.2.2.2.2.2.2 R.2.2.1 cn) (vp_updL (bsM2 (vp_updL g.1 (5 + 6 * R.2.2.1) (lN cn)) (5 + 6 * R.2.2.1) x' cn) 4 (lN (R.2.2.1 + 1)), g.2) := by
  obtain ⟨shd, pct, bct, D, pn, pl, bl⟩ := R
  obtain ⟨T, gr⟩ := g
  obtain ⟨⟨h1, h2, h3, h4, h5, h6⟩, hp, hD, ⟨t0, t1, t2, t3, t4, t5, t6⟩, h9, β, b1, b2, b3⟩ := h
  have hb : bct < 4 := hb
  have h6 : ∀ j, bl j ≤ 5 := h6
  have b2 : D.2.2.2.2.2.2.2.1 = (fun j => nI (β j)) := b2
  have hr : ∀ j, j < bct * 5 ∨ bct * 5 + cn ≤ j → row' j = nI (β j) := fun j hj => by
    have := hr j hj
    rw [this]; exact congrFun b2 j
  have hx : ∀ i, i < cn → ∃ m, m ≤ 30 ∧ row' (bct * 5 + i) = nI m ∧ x' i = nI m := hx
  have hrow : ∀ j, ∃ m, m ≤ 30 ∧ row' j = nI m := fun j => by
    by_cases q : j < bct * 5 ∨ bct * 5 + cn ≤ j
    · exact ⟨_, b1 j, hr j q⟩
    · obtain ⟨m, m1, m2, -⟩ := hx (j - bct * 5) (by omega)
      rw [show bct * 5 + (j - bct * 5) = j by omega] at m2
      exact ⟨m, m1, m2⟩
  obtain ⟨β', c1, c2⟩ := row_beta hrow
  have ce : ∀ j m, m ≤ 30 → row' j = nI m → β' j = m := fun j m hm e => by
    rw [c2] at e
    have := c1 j
    exact (nI_eq (by omega) (by omega)).mp e
  generalize hU : vp_updL (bsM2 (vp_updL T (5 + 6 * bct) (lN cn)) (5 + 6 * bct) x' cn) 4 (lN (bct + 1)) = U
  have u4 : U 4 = lN (bct + 1) := by rw [← hU, pk_uLs]
  have uq : U (5 + 6 * bct) = lN cn := by rw [← hU, pk_uLn (by omega), bsM2_at, if_neg (by omega), pk_uLs]
  have un : ∀ j, j ≠ 4 → (j < 5 + 6 * bct ∨ 5 + 6 * bct + cn < j) → U j = T j := fun j j1 j2 => by rw [← hU, pk_uLn j1, bsM2_at, if_neg (by omega), pk_uLn (by omega)]
  have ui : ∀ i, i < cn → ∃ m, m ≤ 30 ∧ row' (bct * 5 + i) = nI m ∧ U (5 + 6 * bct + 1 + i) = lN m := fun i hi => by
    obtain ⟨m, m1, m2, m3⟩ := hx i hi
    refine ⟨m, m1, m2, ?_⟩
    rw [← hU, pk_uLn (by omega), bsM2_at, if_pos (by omega), show 5 + 6 * bct + 1 + i - (5 + 6 * bct + 1) = i by omega, m3, i2l_nI (by omega)]
  have t0 : T 0 = lN D.1 := t0
  have t1 : T 1 = lN D.2.2.1 := t1
  have t2 : T 2 = lN D.2.2.2.1 := t2
  have t3 : T 3 = 0 := t3
  have t5 : T 29 = D.2.1 := t5
  have t6 : ∀ j, 30 ≤ j → j < 90 → T j = 0 := t6
  have h9 : ∀ j, 5 ≤ j → j < 29 → ∃ m, m ≤ 30 ∧ T j = lN m := h9
  have b3 : ∀ u, u < bct → T (5 + 6 * u) = lN (bl u) ∧ ∀ i, i < bl u → T (5 + 6 * u + 1 + i) = lN (β (u * 5 + i)) := b3
  refine ⟨⟨h1, h2, hb, h4, h5, updN_le h6 hcn⟩, hp, hD, ⟨?_, ?_, ?_, ?_, u4, ?_, fun j j1 j2 => ?_⟩, fun j j1 j2 => ?_, β', c1, c2, fun u hu => ?_⟩
  · show U 0 = lN D.1; rw [un 0 (by omega) (by omega)]; exact t0
  · show U 1 = lN D.2.2.1; rw [un 1 (by omega) (by omega)]; exact t1
  · show U 2 = lN D.2.2.2.1; rw [un 2 (by omega) (by omega)]; exact t2
  · show U 3 = 0; rw [un 3 (by omega) (by omega)]; exact t3
  · show U 29 = D.2.1; rw [un 29 (by omega) (by omega)]; exact t5
  · show U j = 0; rw [un j (by omega) (by omega)]; exact t6 j j1 j2
  · show ∃ m, m ≤ 30 ∧ U j = lN m
    by_cases q : j < 5 + 6 * bct ∨ 5 + 6 * bct + cn < j
    · rw [un j (by omega) q]; exact h9 j j1 j2
    · by_cases z : j = 5 + 6 * bct
      · subst z; exact ⟨cn, by omega, uq⟩
      · obtain ⟨m, m1, -, m2⟩ := ui (j - (5 + 6 * bct + 1)) (by omega)
        rw [show 5 + 6 * bct + 1 + (j - (5 + 6 * bct + 1)) = j by omega] at m2
        exact ⟨m, m1, m2⟩
  · show U (5 + 6 * u) = lN (updN bl bct cn u) ∧ ∀ i, i < updN bl bct cn u → U (5 + 6 * u + 1 + i) = lN (β' (u * 5 + i))
    have hu : u < bct + 1 := hu
    by_cases q : u = bct
    · subst q
      rw [updN_s]
      refine ⟨uq, fun i hi => ?_⟩
      obtain ⟨m, m1, m2, m3⟩ := ui i hi
      rw [m3, ce _ m m1 m2]
    · rw [updN_n _ q]
      obtain ⟨a1, a2⟩ := b3 u (by omega)
      have := h6 u
      refine ⟨by rw [un _ (by omega) (by omega)]; exact a1, fun i hi => ?_⟩
      rw [un _ (by omega) (by omega), a2 i hi, ce _ _ (b1 _) (hr _ (by omega))]
theorem bas_sim {len q : Nat} {B : Nat → Int32} (hB : bKn B) (hq : q ≤ len) (hp0 : q < tkE len B q) (v : Nat) (hv : v ≤ 1000) (R : RT) (g : GT) (hd : datR R g) (c : G3) : MR len B q R.2.1 (basR len B (cst len B q v R)) (baM R.2.2.1 (nI (tkS len B q)) (gst len (tkE len B q) B g) c).1 := by
  obtain ⟨t1, t2, t3⟩ := tkE_le (B := B) hq
  have hV := tkV_le (B := B) hq hv
  have hb4 : R.2.2.1 ≤ 4 := hd.1.2.2.1
  unfold basR
  have eb : rsBc (cst len B q v R) = R.2.2.1 := rfl
  rw [eb]
  by_cases hb : R.2.2.1 < 4
  · rw [if_pos hb]
    have er : rnS len B 20 (R.2.2.1 * 5) 30 (advR len B (cst len B q v R)) (rsD (cst len B q v R)).2.2.2.2.2.2.2.1 = rnR len B 20 (R.2.2.1 * 5) 30 5 0 (-1) 0 (tkS len B (tkE len B q)) (tkE len B (tkE len B q)) (tkK len B (tkE len B q)) (tkV len B (tkE len B q) (tkV len B q v)) R.2.2.2.1.2.2.2.2.2.2.2.1 := rfl
    rw [er]
    have eB : baB R.2.2.1 (nI (tkS len B q)) (gst len (tkE len B q) B g) = gst len (tkE len B q) B g := if_neg (by omega)
    unfold baM
    rw [eB]
    rcases rn_sim hB (most := 30) (LEN := 20) (fr := R.2.2.1 * 5) (by omega) (by omega) R g hd 5 0 (tkE len B q) (tkV len B q v) R.2.2.2.1.2.2.2.2.2.2.2.1 c.1 (by omega) t3 hV with ⟨i1, fp, flt, st, en, kd, vl, row', e, hvl, f1, f2, f3, f4, f5⟩ | ⟨cn, p', v', row', x', e, hv', i3, i4, i5, i6, i7, i8, i9, i10, i11, i12⟩
    · have f3 : (rnM 30 6 (gst len (tkE len B q) B g) (c.1, 0)).1.2.2.1 = flt := f3
      have f4 : (rnM 30 6 (gst len (tkE len B q) B g) (c.1, 0)).1.2.2.2.1 = fp := f4
      rw [e, if_neg (show ¬ 0 < ((0, fp, flt, st, en, kd, vl, row') : RN).1 from Nat.lt_irrefl 0), if_neg (by rw [f3]; exact f1)]
      obtain ⟨w1, w2, w3, β, w4, w5⟩ := dat_W hd (fp := fp) (flt := flt) (st := st) (en := en) (kd := kd) hvl
      have w5 : R.2.2.2.1.2.2.2.2.2.2.2.1 = fun j => nI (β j) := w5
      exact Or.inl ⟨rfl, f3, f1, f2, f4, w1, w2, w3, row_beta (f5 (fun j => ⟨_, w4 j, congrFun w5 j⟩))⟩
    · have hlt := i8 i4
      have hdp := dat_base hd hb (row' := row') (x' := x') i5 (fun j hj => i9 j (by omega)) (fun i hi => i10 i (by omega) hi)
      rw [e, if_pos (show 0 < ((cn, -1, 0, tkS len B p', tkE len B p', tkK len B p', tkV len B p' v', row') : RN).1 from i4)]
      refine Or.inr ⟨rfl, p', v', (R.1, R.2.1, R.2.2.1 + 1, nsR R.2.2.2.1 row', R.2.2.2.2.1, R.2.2.2.2.2.1, updN R.2.2.2.2.2.2 R.2.2.1 cn), rfl, hv', i7, by omega, ?_, ?_⟩
      · show 6 * R.2.1 + q ≤ 6 * R.2.1 + p' + 1; omega
      · rcases i12 with i12 | ⟨k2, g1, g2⟩
        · have i12 : rnM 30 6 (gst len (tkE len B q) B g) (c.1, 0) = (gst len (tkS len B p') B g, x', cn) := i12
          rw [i12, if_pos (show ((gst len (tkS len B p') B g, x', cn) : G1 × G3).1.2.2.1 = 0 from rfl)]
          exact Or.inl ⟨_, hdp, Or.inr rfl⟩
        · have g1 : (rnM 30 6 (gst len (tkE len B q) B g) (c.1, 0)).1.2.2.1 = 1 := g1
          have g2 : (rnM 30 6 (gst len (tkE len B q) B g) (c.1, 0)).1.2.2.2.1 = nI (tkS len B p') := g2
          rw [if_neg (by rw [g1]; omega)]
          exact Or.inr ⟨k2, g1, g2, _, hdp⟩
  · rw [if_neg hb]
    have eB : baB R.2.2.1 (nI (tkS len B q)) (gst len (tkE len B q) B g) = gfl len (tkE len B q) 3 (nI (tkS len B q)) B g := by
      unfold baB
      rw [if_pos (by omega)]
      exact if_pos rfl
    unfold baM
    rw [eB, fz_rn (show ¬ (gfl len (tkE len B q) 3 (nI (tkS len B q)) B g).2.2.1 = 0 by show ¬ (3 : Nat) = 0; omega), if_neg (show ¬ ((gfl len (tkE len B q) 3 (nI (tkS len B q)) B g, (c.1, 0)) : G1 × G3).1.2.2.1 = 0 by show ¬ (3 : Nat) = 0; omega)]
    exact Or.inl ⟨rfl, rfl, by show ¬ (3 : Nat) = 0; omega, by show 3 ≤ 4; omega, rfl, dat_W hd hV⟩
