/-! ===== reading: an entry, all entries, the head ===== -/
theorem fz_ln {b : G1} (h : ¬ b.2.2.1 = 0) (n : Nat) (more : Bool) : lnM n more b = b := by
  unfold lnM
  rw [fz_num h, fz_num h, if_neg h]
theorem all_d : ∀ n, n ≤ 11 → ∀ k, k < 64 → 55 ≤ k → btL (allN n) k = false := by decide +kernel
theorem all_55 {n : Nat} (hn : n ≤ 11) : ok55 (allN n) := fun k hk => by
  by_cases q : k < 64
  · exact all_d n hn k q hk
  · exact btL_big _ (by omega)
def exW (w1 w2 : List Char) : Bool := !(Nat.beq w1.length w2.length && alB (fun i => Nat.beq (w1.getD i 'a').toNat (w2.getD i 'a').toNat) w1.length)
theorem wr_ex {B : Nat → Int32} {s : RS} {w1 w2 : String} (l1 : loB w1.toList = true) (l2 : loB w2.toList = true) (hx : exW w1.toList w2.toList = true) (h : wrdR B w1 s = true) : ¬ wrdR B w2 s = true := by
  intro h2
  unfold wrdR wdB at h h2
  rw [and9, decide_eq_true_iff, wdM_iff] at h h2
  obtain ⟨⟨a1, a2⟩, a3⟩ := h
  obtain ⟨⟨b1, b2⟩, b3⟩ := h2
  have l1 := lo_of l1
  have l2 := lo_of l2
  have e : w1.toList.length = w2.toList.length := by omega
  have f : (Nat.beq w1.toList.length w2.toList.length && alB (fun i => Nat.beq (w1.toList.getD i 'a').toNat (w2.toList.getD i 'a').toNat) w1.toList.length) = true := by
    rw [and9, beq9, alB_iff]
    refine ⟨e, fun i hi => ?_⟩
    rw [beq9]
    have x1 := a3 i hi
    have x2 := b3 i (by omega)
    rw [x1] at x2
    have y1 := l1.2 i hi
    have y2 := l2.2 i (by omega)
    exact (nI_eq (by omega) (by omega)).mp x2
  unfold exW at hx
  rw [f] at hx
  cases hx
theorem ex_lp : exW "line".toList "part".toList = true := by decide +kernel
theorem ex_lb : exW "line".toList "base".toList = true := by decide +kernel
theorem ex_ls : exW "line".toList "shape".toList = true := by decide +kernel
theorem ex_mp : exW "less".toList "part".toList = true := by decide +kernel
theorem ex_mb : exW "less".toList "base".toList = true := by decide +kernel
theorem ex_ms : exW "less".toList "shape".toList = true := by decide +kernel
theorem ex_sp : exW "shape".toList "part".toList = true := by decide +kernel
theorem ex_sb : exW "shape".toList "base".toList = true := by decide +kernel
theorem len_all : "all".toList.length = 3 := by decide +kernel
theorem len_line : "line".toList.length = 4 := by decide +kernel
theorem len_less : "less".toList.length = 4 := by decide +kernel
theorem len_shape : "shape".toList.length = 5 := by decide +kernel
theorem len_part : "part".toList.length = 4 := by decide +kernel
theorem len_base : "base".toList.length = 4 := by decide +kernel
theorem len_nodes : "nodes".toList.length = 5 := by decide +kernel
theorem dat_shd {R : RT} {g : GT} (h : datR R g) : datR (true, R.2) (g.1, g.2.1, g.2.2.1, g.2.2.2.1, true) := by
  obtain ⟨⟨h1, h2, h3, h4, h5, h6⟩, hp, ⟨d1, d2, d3, d4, d5, d6⟩, hT, h9, hβ⟩ := h
  exact ⟨⟨rfl, h2, h3, h4, h5, h6⟩, hp, ⟨d1, d2, d3, (fun z => by cases z), d5, d6⟩, hT, h9, hβ⟩
theorem ent_sim {len q : Nat} {B : Nat → Int32} (hlen : len ≤ 300) (hB : bKn B) (hq : q ≤ len) (v : Nat) (hv : v ≤ 1000) (R : RT) (g : GT) (hd : datR R g) (h6 : 6 * R.2.1 ≤ q) (c : G3) : MR len B q R.2.1 (entR len B (cst len B q v R)) (leM R.2.2.2.1.1 R.2.2.1 (nI (tkS len B q)) (gst len (tkS len B q) B g) c).1 := by
  obtain ⟨t1, t2, t3⟩ := tkE_le (B := B) hq
  have hV := tkV_le (B := B) hq hv
  have hsh : g.2.2.2.2 = R.1 := hd.1.1
  have hn : R.2.2.2.1.1 ≤ 11 := hd.2.2.1.2.1
  have W : ∀ w : String, loB w.toList = true → tkB (gst len (tkS len B q) B g) w = wrdR B w (cst len B q v R) ∧ (wrdR B w (cst len B q v R) = true → tkM (gst len (tkS len B q) B g) w = gst len (tkE len B q) B g) ∧ (¬ wrdR B w (cst len B q v R) = true → tkM (gst len (tkS len B q) B g) w = gst len (tkS len B q) B g) := fun w hw => sh_word hq hB v R g hw (Or.inr rfl)
  have L : ∀ w : String, wrdR B w (cst len B q v R) = true → q + w.toList.length ≤ tkE len B q := fun w h => by
    have := (wd_en (B := B) (w := w.toList) hq h).1
    omega
  obtain ⟨a1, a2, a3⟩ := W "all" lo_all
  obtain ⟨l1, l2, l3⟩ := W "line" lo_line
  obtain ⟨m1, m2, m3⟩ := W "less" lo_less
  obtain ⟨s1, s2, s3⟩ := W "shape" lo_shape
  obtain ⟨p1, p2, p3⟩ := W "part" lo_part
  obtain ⟨b1, b2, b3⟩ := W "base" lo_base
  unfold entR
  by_cases qa : wrdR B "all" (cst len B q v R) = true
  · have hl := L "all" qa
    rw [len_all] at hl
    unfold leM
    rw [if_pos qa, a1, if_pos qa, a2 qa]
    refine Or.inr ⟨rfl, tkE len B q, tkV len B q v, (R.1, R.2.1, R.2.2.1, (R.2.2.2.1.1, allN R.2.2.2.1.1, R.2.2.2.1.2.2), R.2.2.2.2), rfl, hV, t3, by omega, ?_, Or.inl ⟨_, dat_net hd (all_55 hn), Or.inl rfl⟩⟩
    show 6 * R.2.1 + q ≤ 6 * R.2.1 + tkE len B q + 1; omega
  · rw [if_neg qa]
    have LS : ¬ wrdR B "part" (cst len B q v R) = true → ¬ wrdR B "base" (cst len B q v R) = true → (¬ wrdR B "shape" (cst len B q v R) = true ∨ R.1 = true) → leM R.2.2.2.1.1 R.2.2.1 (nI (tkS len B q)) (gst len (tkS len B q) B g) c = (lsM R.2.2.2.1.1 (nI (tkS len B q)) (gst len (tkS len B q) B g), c) := fun np nb ns => by
      unfold leM
      rw [a1, if_neg qa, a3 qa, p1, if_neg np, p3 np, b1, if_neg nb, b3 nb]
      have e : (gst len (tkS len B q) B g).2.2.2.2.2.2.2.2.2 = R.1 := hsh
      rw [e]
      by_cases r : R.1 = true
      · rw [if_pos r]
      · rcases ns with ns | ns
        · rw [if_neg r, s1, if_neg ns, s3 ns]
        · exact absurd ns r
    have NW : ¬ wrdR B "line" (cst len B q v R) = true → ¬ wrdR B "less" (cst len B q v R) = true → lsM R.2.2.2.1.1 (nI (tkS len B q)) (gst len (tkS len B q) B g) = gfl len (tkS len B q) 1 (nI (tkS len B q)) B g := fun nl nm => by
      unfold lsM
      have e : bWr (gst len (tkS len B q) B g) 1 (nI (tkS len B q)) = gfl len (tkS len B q) 1 (nI (tkS len B q)) B g := if_pos rfl
      rw [l1, if_neg nl, l3 nl, m1, if_neg nm, m3 nm, e, fz_ln (show ¬ (gfl len (tkS len B q) 1 (nI (tkS len B q)) B g).2.2.1 = 0 by show ¬ (1 : Nat) = 0; omega)]
    have F1 : FL (refR 1 (cst len B q v R)) (gfl len (tkS len B q) 1 (nI (tkS len B q)) B g) := ⟨rfl, by show ¬ (1 : Nat) = 0; omega, by show 1 ≤ 4; omega, rfl, dat_W hd hV⟩
    by_cases ql : wrdR B "line" (cst len B q v R) = true
    · have hl := L "line" ql
      rw [len_line] at hl
      rw [if_pos ql, LS (wr_ex lo_line lo_part ex_lp ql) (wr_ex lo_line lo_base ex_lb ql) (Or.inl (wr_ex lo_line lo_shape ex_ls ql))]
      show MR _ _ _ _ _ (lsM R.2.2.2.1.1 (nI (tkS len B q)) (gst len (tkS len B q) B g))
      unfold lsM
      rw [l1, if_pos ql, l2 ql]
      exact lin_sim hB t3 (by omega) _ hV R g hd true _ (cst_adv _ _ _ _ _)
    · rw [if_neg ql]
      by_cases qm : wrdR B "less" (cst len B q v R) = true
      · have hl := L "less" qm
        rw [len_less] at hl
        rw [if_pos qm, LS (wr_ex lo_less lo_part ex_mp qm) (wr_ex lo_less lo_base ex_mb qm) (Or.inl (wr_ex lo_less lo_shape ex_ms qm))]
        show MR _ _ _ _ _ (lsM R.2.2.2.1.1 (nI (tkS len B q)) (gst len (tkS len B q) B g))
        unfold lsM
        rw [l1, if_neg ql, l3 ql, m1, if_pos qm, m2 qm]
        exact lin_sim hB t3 (by omega) _ hV R g hd false _ (cst_adv _ _ _ _ _)
      · rw [if_neg qm]
        by_cases qs : wrdR B "shape" (cst len B q v R) = true
        · have hl := L "shape" qs
          rw [len_shape] at hl
          have np := wr_ex lo_shape lo_part ex_sp qs
          have nb := wr_ex lo_shape lo_base ex_sb qs
          rw [if_pos qs]
          unfold shpR
          have e : (cst len B q v R).2.2.2.2.2.2.1 = R.1 := rfl
          rw [e]
          by_cases r : R.1 = true
          · rw [if_pos r, LS np nb (Or.inr r)]
            show MR _ _ _ _ _ (lsM R.2.2.2.1.1 (nI (tkS len B q)) (gst len (tkS len B q) B g))
            rw [NW ql qm]
            exact Or.inl ⟨rfl, F1⟩
          · rw [if_neg r]
            unfold leM
            have e2 : (gst len (tkS len B q) B g).2.2.2.2.2.2.2.2.2 = R.1 := hsh
            rw [a1, if_neg qa, a3 qa, p1, if_neg np, p3 np, b1, if_neg nb, b3 nb, e2, if_neg r, s1, if_pos qs, s2 qs]
            have r' : R.1 = false := by cases z : R.1 with | false => rfl | true => exact absurd z r
            exact shp_sim (R := (true, R.2)) (g := (g.1, g.2.1, g.2.2.1, g.2.2.2.1, true)) t3 hB (by omega) (tkV len B q v) hV (dat_shd hd) rfl (hd.2.2.1.2.2.2.1 r')
        · rw [if_neg qs]
          by_cases qp : wrdR B "part" (cst len B q v R) = true
          · have hl := L "part" qp
            rw [len_part] at hl
            rw [if_pos qp]
            unfold leM
            rw [a1, if_neg qa, a3 qa, p1, if_pos qp, p2 qp]
            exact prt_sim hlen hB t3 (by omega) _ hV R g hd (by omega) c _ (cst_adv _ _ _ _ _)
          · rw [if_neg qp]
            by_cases qb : wrdR B "base" (cst len B q v R) = true
            · have hl := L "base" qb
              rw [len_base] at hl
              rw [if_pos qb]
              unfold leM
              rw [a1, if_neg qa, a3 qa, p1, if_neg qp, p3 qp, b1, if_pos qb, b2 qb]
              exact bas_sim hB hq (by omega) v hv R g hd c
            · rw [if_neg qb, LS qp qb (Or.inl qs)]
              show MR _ _ _ _ _ (lsM R.2.2.2.1.1 (nI (tkS len B q)) (gst len (tkS len B q) B g))
              rw [NW ql qm]
              exact Or.inl ⟨rfl, F1⟩
theorem li_eq {len q : Nat} {B : Nat → Int32} (hq : q ≤ len) (n bc : Nat) (g : GT) (c : G3) : liM n bc (heB (gst len q B g)) c = (musM (leM n bc (nI (tkS len B q)) (gst len (tkS len B q) B g) c).1 (nI 59), (leM n bc (nI (tkS len B q)) (gst len (tkS len B q) B g) c).2) := by
  unfold liM
  rw [gst_he, gst_P, gst_he, tkS_id hq]
theorem stp_sim {len q : Nat} {B : Nat → Int32} (hlen : len ≤ 300) (hB : bKn B) (hq : q ≤ len) (v : Nat) (hv : v ≤ 1000) (R : RT) (g : GT) (hd : datR R g) (h6 : 6 * R.2.1 ≤ q) (c : G3) : ER len B q R.2.1 (stpR len B (cst len B q v R)) (liM R.2.2.2.1.1 R.2.2.1 (heB (gst len q B g)) c).1 := by
  rw [li_eq hq]
  exact mr_er hB (ent_sim hlen hB hq v hv R g hd h6 c)
theorem gst_n {len q : Nat} {B : Nat → Int32} {R : RT} {g : GT} (hd : datR R g) : nF (gst len q B g) = R.2.2.2.1.1 ∧ bF (gst len q B g) = R.2.2.1 ∧ sF (gst len q B g) = R.2.2.2.1.2.2.1 ∧ kF (gst len q B g) = R.2.2.2.1.2.2.2.1 := by
  obtain ⟨⟨h1, h2, h3, h4, h5, h6⟩, hp, ⟨d1, d2, d3, d4, d5, d6⟩, ⟨t0, t1, t2, t3, t4, t5, t6⟩, h9, hβ⟩ := hd
  obtain ⟨b1, b2, b3, -⟩ := shOk_b d3
  refine ⟨?_, ?_, ?_, ?_⟩
  · show (g.1 0).toNatClampNeg = _; rw [t0, lN_clamp (by omega)]
  · show (g.1 4).toNatClampNeg = _; rw [t4, lN_clamp (by omega)]
  · show (g.1 1).toNatClampNeg = _; rw [t1, lN_clamp (by omega)]
  · show (g.1 2).toNatClampNeg = _; rw [t2, lN_clamp (by omega)]
def LR (len : Nat) (B : Nat → Int32) (r : Bool × RS) (t : G1 × G3) : Prop :=
  (r.1 = false ∧ FL r.2 t.1) ∨ (r.1 = true ∧ ∃ (q v : Nat) (R : RT) (g : GT), r.2 = cst len B q v R ∧ q ≤ len ∧ v ≤ 1000 ∧ datR R g ∧ 6 * R.2.1 ≤ q ∧ t.1 = gst len (tkS len B q) B g)
theorem lop_f {len : Nat} {B : Nat → Int32} (r : Bool × RS) (h : r.1 = false) : ∀ z, lopR len B z r = r
  | 0 => rfl
  | z + 1 => if_neg (fun w => by rw [h] at w; cases w.1)
theorem txL_f {b : G1} (h : ¬ b.2.2.1 = 0) (c : G3) : ∀ y, txL y b c = (b, c)
  | 0 => rfl
  | y + 1 => if_neg h
theorem lop_sim {len : Nat} {B : Nat → Int32} (hlen : len ≤ 300) (hB : bKn B) : ∀ (y z q v : Nat) (R : RT) (g : GT) (c : G3), q ≤ len → v ≤ 1000 → datR R g → 6 * R.2.1 ≤ q → len ≤ q + z → len < q + y → LR len B (lopR len B z (true, cst len B q v R)) (txL y (gst len q B g) c)
  | 0, z, q, v, R, g, c, h1, h2, h3, h4, h5, h6 => by omega
  | y + 1, z, q, v, R, g, c, hq, hv, hd, h6, h7, h8 => by
    have et : txL (y + 1) (gst len q B g) c = if byM (gst len q B g) (tkP (gst len q B g)) = -1 then (heB (gst len q B g), c) else txL y (liM (nF (gst len q B g)) (bF (gst len q B g)) (heB (gst len q B g)) c).1 (liM (nF (gst len q B g)) (bF (gst len q B g)) (heB (gst len q B g)) c).2 := if_pos rfl
    rw [et]
    by_cases k0 : tkK len B q = 0
    · rw [if_pos ((end_w hq hB g).mpr k0)]
      have el : lopR len B z (true, cst len B q v R) = (true, cst len B q v R) := by
        cases z with
        | zero => rfl
        | succ z => exact if_neg (fun w => w.2 k0)
      rw [el]
      exact Or.inr ⟨rfl, q, v, R, g, rfl, hq, hv, hd, h6, rfl⟩
    · rw [if_neg (fun w => k0 ((end_w hq hB g).mp w))]
      cases z with
      | zero =>
        exfalso
        apply k0
        rw [tkK_0]
        have := (tkS_b (B := B) hq).1
        omega
      | succ z =>
        have el : lopR len B (z + 1) (true, cst len B q v R) = lopR len B z (stpR len B (cst len B q v R)) := if_pos ⟨rfl, k0⟩
        rw [el, (gst_n hd).1, (gst_n hd).2.1]
        rcases stp_sim hlen hB hq v hv R g hd h6 c with ⟨e1, e2⟩ | ⟨e1, p, v', R', g', e2, i1, i2, i3, i4, i5, i6⟩
        · rw [lop_f _ e1, txL_f (by rw [e2.1]; exact e2.2.1)]
          exact Or.inl ⟨e1, e2⟩
        · have er : stpR len B (cst len B q v R) = (true, cst len B p v' R') := Prod.ext e1 e2
          rw [er, i6]
          exact lop_sim hlen hB y z p v' R' g' _ i2 i1 i5 (by omega) (by omega) (by omega)
/-! the head -/
theorem dat_0 {n : Nat} (hn : 2 ≤ n) (hn1 : n ≤ 11) {D : NS} {pn : Nat → Int32} {pl bl : Nat → Nat} {T : Nat → Int64} {pnR : Nat → Int32} {plR : Nat → Nat} (h1 : ∀ j, plR j ≤ 5) (h2 : ∀ j, pl j ≤ 5) (h3 : ∀ j, bl j ≤ 5) (h4 : ∃ β : Nat → Nat, (∀ j, β j ≤ 30) ∧ D.2.2.2.2.2.2.2.1 = fun j => nI (β j)) : datR (false, 0, 0, emtD n D, pn, pl, bl) (vp_updL (vp_updL (zrF T 90) 2 (lN 3)) 0 (lN n), pnR, plR, 0, false) := by
  obtain ⟨β, b1, b2⟩ := h4
  have z : ∀ j, j ≠ 0 → j ≠ 2 → j < 90 → vp_updL (vp_updL (zrF T 90) 2 (lN 3)) 0 (lN n) j = lN 0 := fun j j1 j2 j3 => by rw [pk_uLn j1, pk_uLn j2]; exact if_pos j3
  refine ⟨⟨rfl, rfl, by show 0 ≤ 4; omega, h1, h2, h3⟩, fun p hp => absurd hp (Nat.not_lt_zero _), ⟨hn, hn1, Or.inl ⟨rfl, rfl⟩, fun _ => ⟨rfl, rfl⟩, fun k _ => btL_0 k, rfl⟩, ⟨?_, ?_, ?_, ?_, ?_, ?_, fun j j1 j2 => ?_⟩, fun j j1 j2 => ?_, β, b1, b2, fun u hu => absurd hu (Nat.not_lt_zero _)⟩
  · show vp_updL (vp_updL (zrF T 90) 2 (lN 3)) 0 (lN n) 0 = lN n; rw [pk_uLs]
  · exact z 1 (by omega) (by omega) (by omega)
  · show vp_updL (vp_updL (zrF T 90) 2 (lN 3)) 0 (lN n) 2 = lN 3; rw [pk_uLn (by omega), pk_uLs]
  · exact z 3 (by omega) (by omega) (by omega)
  · exact z 4 (by omega) (by omega) (by omega)
  · exact z 29 (by omega) (by omega) (by omega)
  · exact z j (by omega) (by omega) (by omega)
  · exact ⟨0, by omega, z j (by omega) (by omega) (by omega)⟩
theorem hed_sim {len : Nat} {B : Nat → Int32} (hB : bKn B) (s : RS) (hW : rsW s) (b : G1) (hb : b.2.2.2.2.1 = B) (hpl : ∀ j, b.2.2.2.2.2.2.2.1 j ≤ 5) : ER len B 0 0 (hedR len B (begR s)) (hdM (txA len b)) := by
  obtain ⟨w1, w2, w3, w4⟩ := hW
  have hq : 0 ≤ len := Nat.zero_le _
  obtain ⟨t1, t2, t3⟩ := tkE_le (B := B) hq
  obtain ⟨u1, u2, u3⟩ := tkE_le (B := B) t3
  have hV := tkV_le (B := B) hq w1
  have hV2 := tkV_le (B := B) t3 hV
  generalize hg : ((vp_updL (zrF b.2.2.2.2.2.1 90) 2 (lN 3), b.2.2.2.2.2.2.1, b.2.2.2.2.2.2.2.1, 0, false) : GT) = g0
  have eA : txA len b = gst len 0 B g0 := by rw [← hg, ← hb]; rfl
  generalize hR0 : ((false, 0, 0, rsD s, s.2.2.2.2.2.2.2.2.2.2.1, s.2.2.2.2.2.2.2.2.2.2.2.1, s.2.2.2.2.2.2.2.2.2.2.2.2) : RT) = R0
  have e1 : advR len B (begR s) = cst len B 0 s.2.2.2.2.2.1 R0 := by rw [← hR0]; rfl
  have FW : ∀ (f : Int32) (w st en kd vl : Nat), vl ≤ 1000 → rsW (f, w, st, en, kd, vl, R0) := fun f w st en kd vl h => by rw [← hR0]; exact ⟨h, w2, w3, w4⟩
  have eh : rsD (begR s) = rsD s := rfl
  unfold hedR hdM hd1
  rw [eA, e1, cst_adv, eh]
  obtain ⟨n1, n2, n3⟩ := sh_word hq hB s.2.2.2.2.2.1 R0 g0 lo_nodes (b := gst len 0 B g0) (Or.inl rfl)
  rw [n1]
  by_cases qn : wrdR B "nodes" (cst len B 0 s.2.2.2.2.2.1 R0) = true
  · rw [if_pos qn, if_pos qn, n2 qn]
    have hl := (wd_en (B := B) (w := "nodes".toList) hq qn).1
    rw [len_nodes] at hl
    rcases num_w (B := B) (lo := 2) (hi := 11) t3 (by omega) (tkV len B 0 s.2.2.2.2.2.1) (-1) g0 with ⟨k, a1, a2, a3, e⟩ | ⟨k, a, x, e⟩ | ⟨k, e⟩
    · have en : numB 2 11 (cst len B (tkE len B 0) (tkV len B 0 s.2.2.2.2.2.1) R0) = true := decide_eq_true ⟨k, a1, a2⟩
      rw [if_pos en, e]
      have hd := dat_0 a1 a2 (D := rsD s) (pn := s.2.2.2.2.2.2.2.2.2.2.1) (T := b.2.2.2.2.2.1) (pnR := b.2.2.2.2.2.2.1) hpl w2 w3 w4
      have hlt := (tkE_2 (tkV len B 0 s.2.2.2.2.2.1) k).2.2
      generalize hv1 : tkV len B (tkE len B 0) (tkV len B 0 s.2.2.2.2.2.1) = n at *
      have em : MR len B 0 0 (true, cst len B (tkE len B (tkE len B 0)) n (false, 0, 0, emtD n (rsD s), s.2.2.2.2.2.2.2.2.2.2.1, s.2.2.2.2.2.2.2.2.2.2.2.1, s.2.2.2.2.2.2.2.2.2.2.2.2)) (hd2 (n, gst len (tkE len B (tkE len B 0)) B g0)) := by
        refine Or.inr ⟨rfl, _, _, _, rfl, hV2, u3, by omega, ?_, Or.inl ⟨_, hd, Or.inl ?_⟩⟩
        · show 6 * 0 + 0 ≤ 6 * 0 + tkE len B (tkE len B 0) + 1; omega
        · rw [← hg]; rfl
      have := mr_er hB em
      rw [if_pos rfl] at this
      have e9 : advR len B (setD (emtD (rsVl (cst len B (tkE len B 0) (tkV len B 0 s.2.2.2.2.2.1) R0)) (rsD s)) (cst len B (tkE len B 0) (tkV len B 0 s.2.2.2.2.2.1) R0)) = cst len B (tkE len B (tkE len B 0)) n (false, 0, 0, emtD n (rsD s), s.2.2.2.2.2.2.2.2.2.2.1, s.2.2.2.2.2.2.2.2.2.2.2.1, s.2.2.2.2.2.2.2.2.2.2.2.2) := by
        rw [← hR0, ← hv1]; rfl
      rw [e9]
      exact this
    · have a' : ¬ (2 ≤ tkV len B (tkE len B 0) (tkV len B 0 s.2.2.2.2.2.1) ∧ tkV len B (tkE len B 0) (tkV len B 0 s.2.2.2.2.2.1) ≤ 11) := fun z => a ⟨z.1, z.2, nI_m1 (by omega)⟩
      have en : ¬ numB 2 11 (cst len B (tkE len B 0) (tkV len B 0 s.2.2.2.2.2.1) R0) = true := fun z => a' (of_decide_eq_true z).2
      rw [if_neg en, e]
      have q1 : nuP (tkK len B (tkE len B 0)) (tkV len B (tkE len B 0) (tkV len B 0 s.2.2.2.2.2.1)) 2 11 (tkS len B (tkE len B 0)) (-1) = nI (tkS len B (tkE len B 0)) := if_neg (fun z => a' z.2)
      have q2 : nuF (tkK len B (tkE len B 0)) (tkV len B (tkE len B 0) (tkV len B 0 s.2.2.2.2.2.1)) 2 11 0 = 2 := by unfold nuF; rw [if_pos k, if_neg a']
      have ef : (hd2 (x, gfl len (tkE len B (tkE len B 0)) 2 (nI (tkS len B (tkE len B 0))) B g0)).2.2.1 = 2 := rfl
      rw [fz_mus (by rw [ef]; omega)]
      exact Or.inl ⟨rfl, q2.symm, by show ¬ nuF (tkK len B (tkE len B 0)) (tkV len B (tkE len B 0) (tkV len B 0 s.2.2.2.2.2.1)) 2 11 0 = 0; rw [q2]; omega, by show nuF (tkK len B (tkE len B 0)) (tkV len B (tkE len B 0) (tkV len B 0 s.2.2.2.2.2.1)) 2 11 0 ≤ 4; rw [q2]; omega, q1.symm, FW _ _ _ _ _ _ hV2⟩
    · have en : ¬ numB 2 11 (cst len B (tkE len B 0) (tkV len B 0 s.2.2.2.2.2.1) R0) = true := fun z => k (of_decide_eq_true z).1
      rw [if_neg en, e]
      have q1 : nuP (tkK len B (tkE len B 0)) (tkV len B (tkE len B 0) (tkV len B 0 s.2.2.2.2.2.1)) 2 11 (tkS len B (tkE len B 0)) (-1) = nI (tkS len B (tkE len B 0)) := if_neg (fun z => k z.1)
      have q2 : nuF (tkK len B (tkE len B 0)) (tkV len B (tkE len B 0) (tkV len B 0 s.2.2.2.2.2.1)) 2 11 0 = 1 := if_neg k
      have ef : (hd2 (0, gfl len (tkS len B (tkE len B 0)) 1 (nI (tkS len B (tkE len B 0))) B g0)).2.2.1 = 1 := rfl
      rw [fz_mus (by rw [ef]; omega)]
      exact Or.inl ⟨rfl, q2.symm, by show ¬ nuF (tkK len B (tkE len B 0)) (tkV len B (tkE len B 0) (tkV len B 0 s.2.2.2.2.2.1)) 2 11 0 = 0; rw [q2]; omega, by show nuF (tkK len B (tkE len B 0)) (tkV len B (tkE len B 0) (tkV len B 0 s.2.2.2.2.2.1)) 2 11 0 ≤ 4; rw [q2]; omega, q1.symm, FW _ _ _ _ _ _ hV2⟩
  · rw [if_neg qn, if_neg qn, n3 qn]
    have e3 : bWr (gst len (tkS len B 0) B g0) 1 (nI (gst len (tkS len B 0) B g0).2.1) = gfl len (tkS len B 0) 1 (nI (tkS len B 0)) B g0 := if_pos rfl
    rw [e3, fz_num (show ¬ (gfl len (tkS len B 0) 1 (nI (tkS len B 0)) B g0).2.2.1 = 0 by show ¬ (1 : Nat) = 0; omega)]
    have ef : (hd2 (0, gfl len (tkS len B 0) 1 (nI (tkS len B 0)) B g0)).2.2.1 = 1 := rfl
    rw [fz_mus (by rw [ef]; omega)]
    exact Or.inl ⟨rfl, rfl, by show ¬ (1 : Nat) = 0; omega, by show 1 ≤ 4; omega, rfl, FW _ _ _ _ _ _ hV⟩
