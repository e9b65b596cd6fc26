/-! ===== reading as a whole ===== -/
def rdJ (len : Nat) (B : Nat → Int32) (b : G1) (c : G3) : Prop := rdOk b ∧ b.1 = len ∧ b.2.2.2.2.1 = B ∧ plK b ∧ c.2 ≤ 5 ∧ ((¬ b.2.2.1 = 0 ∧ b.2.2.1 ≤ 4) ∨ ∃ (q : Nat) (R : RT) (g : GT), b = gst len q B g ∧ q ≤ len ∧ datR R g ∧ 6 * R.2.1 ≤ q)
theorem rdJ_I {len : Nat} {B : Nat → Int32} (hlen : len ≤ 300) {b : G1} {c : G3} (h : rdJ len B b c) : rdI b c := by
  obtain ⟨h1, h2, h3, h4, h5, h6⟩ := h
  rcases h6 with ⟨f1, f2⟩ | ⟨q, R, g, e, hq, hd, h6⟩
  · exact ⟨h1, f2, h5, fun z => absurd z f1⟩
  · subst e
    obtain ⟨n1, n2, n3, n4⟩ := gst_n (len := len) (q := q) (B := B) hd
    refine ⟨h1, by show 0 ≤ 4; omega, h5, fun _ => ?_⟩
    rw [n1, n2, n3, n4]
    obtain ⟨⟨e1, e2, e3, e4, e5, e6⟩, hp, ⟨d1, d2, d3, d4, d5, d6⟩, ⟨t0, t1, t2, t3, t4, t5, t6⟩, h9, hβ⟩ := hd
    refine ⟨t0, t1, t2, t4, by omega, d2, d3, e3, ?_, e4⟩
    show g.2.2.2.1 ≤ 60
    rw [show g.2.2.2.1 = R.2.1 from e2]; omega
theorem n59_m1 : ¬ nI 59 = -1 := by decide +kernel
theorem li_K {b : G1} {c : G3} {n bc : Nat} (h1 : rdOk b) (h2 : b.2.2.1 ≤ 4) (h3 : plK b) (h4 : c.2 ≤ 5) : rdK b (liM n bc (heB b) c).1 ∧ plK (liM n bc (heB b) c).1 ∧ (liM n bc (heB b) c).2.2 ≤ 5 := by
  have k0 : rdK b b := ⟨h1, h2, rfl, rfl⟩
  have k1 := rdK_he (rdK_he k0)
  obtain ⟨k2, k3⟩ := rdK_le (n := n) (bc := bc) (w := nI (tkP (heB b))) h4 k1
  exact ⟨rdK_mus n59_m1 k2, pl_mus (pl_le k1 (pl_he (pl_he h3))), k3⟩
theorem rdJ_step {len : Nat} {B : Nat → Int32} (hlen : len ≤ 300) (hB : bKn B) {b : G1} {c : G3} (h : rdJ len B b c) (hf : b.2.2.1 = 0) : rdJ len B (liM (nF b) (bF b) (heB b) c).1 (liM (nF b) (bF b) (heB b) c).2 ∧ (liM (nF b) (bF b) (heB b) c).1.1 = b.1 ∧ ((liM (nF b) (bF b) (heB b) c).1.2.2.1 = 0 → b.2.1 < (liM (nF b) (bF b) (heB b) c).1.2.1) := by
  obtain ⟨h1, h2, h3, h4, h5, h6⟩ := h
  rcases h6 with ⟨f1, f2⟩ | ⟨q, R, g, e, hq, hd, h6⟩
  · exact absurd hf f1
  · obtain ⟨n1, n2, -, -⟩ := gst_n (len := len) (q := q) (B := B) hd
    rw [← e] at n1 n2
    obtain ⟨⟨k11, k12, k13, k14⟩, k2, k3⟩ := li_K (n := R.2.2.2.1.1) (bc := R.2.2.1) h1 (by omega) h4 h5
    have hs := stp_sim hlen hB hq 0 (by omega) R g hd h6 c
    have hbq : b.2.1 = q := by rw [e]; rfl
    rw [← e] at hs
    rw [n1, n2, hbq]
    generalize liM R.2.2.2.1.1 R.2.2.1 (heB b) c = r at *
    rcases hs with ⟨e1, e2⟩ | ⟨e1, p, v', R', g', e2, i1, i2, i3, i4, i5, i6⟩
    · have f0 : ¬ r.1.2.2.1 = 0 := by rw [e2.1]; exact e2.2.1
      exact ⟨⟨k11, k13.trans h2, k14.trans h3, k2, k3, Or.inl ⟨f0, k12⟩⟩, k13, fun z => absurd z f0⟩
    · refine ⟨⟨k11, k13.trans h2, k14.trans h3, k2, k3, Or.inr ⟨p, R', g', i6, i2, i5, by omega⟩⟩, k13, fun _ => ?_⟩
      rw [i6]; exact i3
theorem txL_J {len : Nat} {B : Nat → Int32} (hlen : len ≤ 300) (hB : bKn B) : ∀ (y : Nat) (b : G1) (c : G3), rdJ len B b c → rdJ len B (txL y b c).1 (txL y b c).2
  | 0, b, c, h => h
  | y + 1, b, c, h => by
    unfold txL
    by_cases q : b.2.2.1 = 0
    · rw [if_pos q]
      by_cases w : byM b (tkP b) = -1
      · rw [if_pos w]
        obtain ⟨h1, h2, h3, h4, h5, h6⟩ := h
        refine ⟨rdOk_at h1 (tkP_le h1).2, h2, h3, h4, h5, ?_⟩
        rcases h6 with ⟨f1, f2⟩ | ⟨p, R, g, e, hp, hd, h6⟩
        · exact absurd q f1
        · subst e
          have := tkS_b (B := B) hp
          exact Or.inr ⟨tkS len B p, R, g, rfl, by omega, hd, by omega⟩
      · rw [if_neg w]
        exact txL_J hlen hB y _ _ (rdJ_step hlen hB h q).1
    · rw [if_neg q]; exact h
theorem hed_K {len : Nat} (hlen : len ≤ 300) (b : G1) (h : plK b) : rdK (txA len b) (hdM (txA len b)) ∧ plK (hdM (txA len b)) := by
  have k0 : rdK (txA len b) (txA len b) := ⟨⟨hlen, Nat.zero_le _⟩, by show 0 ≤ 4; omega, rfl, rfl⟩
  have p0 : plK (txA len b) := h
  have k1 := rdK_tk (j := 25) (x := ("PartedNetModel", 210, "nodes")) rfl k0
  have p1 := pl_tk (w := "nodes") p0
  unfold hdM hd1
  have z : ∀ r : Nat × G1, rdK (txA len b) r.2 → plK r.2 → rdK (txA len b) (hd2 r) ∧ plK (hd2 r) := fun r h1 h2 => ⟨h1, h2⟩
  have fin : ∀ b' : G1, rdK (txA len b) b' → plK b' → rdK (txA len b) (musM (hd2 (numM 2 11 (-1) b')) (nI 59)) ∧ plK (musM (hd2 (numM 2 11 (-1) b')) (nI 59)) := fun b' h1 h2 => by
    obtain ⟨z1, z2⟩ := z (numM 2 11 (-1) b') (rdK_num h1) (pl_num h2)
    exact ⟨rdK_mus n59_m1 z1, pl_mus z2⟩
  by_cases q : tkB (txA len b) "nodes" = true
  · rw [if_pos q]; exact fin _ k1 p1
  · rw [if_neg q]; exact fin _ (rdK_wr k1 (by omega)) (pl_wr p1)
theorem hed_J {len : Nat} {B : Nat → Int32} (hlen : len ≤ 300) (hB : bKn B) (s : RS) (hW : rsW s) (b : G1) (hb : b.2.2.2.2.1 = B) (hpl : plK b) (c : G3) (hc : c.2 ≤ 5) : rdJ len B (hdM (txA len b)) c := by
  obtain ⟨⟨k1, k2, k3, k4⟩, k5⟩ := hed_K hlen b hpl
  rcases hed_sim (len := len) hB s hW b hb hpl with ⟨e1, e2⟩ | ⟨e1, p, v', R', g', e2, i1, i2, i3, i4, i5, i6⟩
  · exact ⟨k1, k3, k4.trans hb, k5, hc, Or.inl ⟨by rw [e2.1]; exact e2.2.1, k2⟩⟩
  · exact ⟨k1, k3, k4.trans hb, k5, hc, Or.inr ⟨p, R', g', i6, i2, i5, by omega⟩⟩
theorem arP_5 {n sh k : Nat} {g : Int64} {F : Nat → Int32} {pl : Nat → Nat} (h : ∀ j, pl j ≤ 5) : ∀ (z p : Nat) (t : Int64) (T : Nat → Int64) (x : Nat → Int32) (m : Nat), m ≤ 5 → (arP n sh k g F pl z p t T x m).2.2.2 ≤ 5
  | 0, _, _, _, _, _, hm => hm
  | z + 1, p, t, T, x, m, hm => by
    unfold arP
    split
    · exact h p
    · exact arP_5 h z (p + 1) _ _ _ _ (h p)
theorem arR_5 {n sh k bc : Nat} {b : G1} {c : G3} (h : plK b) (hc : c.2 ≤ 5) : (arR n sh k bc b c).2.2.2 ≤ 5 := by
  unfold arR arR2
  have := arP_5 (n := n) (sh := sh) (k := k) (g := b.2.2.2.2.2.1 29) (F := b.2.2.2.2.2.2.1) h b.2.2.2.2.2.2.2.2.1 0 (lN 0) b.2.2.2.2.2.1 c.1 c.2 hc
  split
  · exact this
  · exact this
theorem tx_sim {len : Nat} {b9 B : Nat → Int32} (hlen : len ≤ 300) (hF : byOk b9) (hT : tpR B b9) (s : RS) (hW : rsW s) (b : G1) (hb : b.2.2.2.2.1 = B) (hpl : plK b) (c : G3) (hc : c.2 ≤ 5) :
    ((txR len b c).1.2.2.1 = (reaR len b9 s).2.1 ∧ (reaR len b9 s).2.1 ≤ 4 ∧ (txR len b c).1.2.2.2.1 = (reaR len b9 s).1) ∧ rsW (reaR len b9 s) ∧ (plK (txR len b c).1 ∧ (txR len b c).1.2.2.2.2.1 = B ∧ (txR len b c).2.2 ≤ 5) ∧ ((reaR len b9 s).2.1 = 0 → (reaR len b9 s).1 = -1 ∧ ∃ Y : MN, eqS (rsD (reaR len b9 s)) Y ∧ ∀ j, j < 90 → (txR len b c).1.2.2.2.2.2.1 j = nowF Y j) := by
  obtain ⟨hsm, hB⟩ := tp_sm hF hT
  rw [sm_rea hsm len s]
  have hB : bKn B := hB
  have j0 := hed_J hlen hB s hW b hb hpl c hc
  have j1 := txL_J hlen hB 302 _ _ j0
  unfold reaR txR
  have main : LR len B (lopR len B 300 (hedR len B (begR s))) (txL 302 (hdM (txA len b)) c) := by
    rcases hed_sim (len := len) hB s hW b hb hpl with ⟨e1, e2⟩ | ⟨e1, p, v', R', g', e2, i1, i2, i3, i4, i5, i6⟩
    · rw [lop_f _ e1, txL_f (by rw [e2.1]; exact e2.2.1)]
      exact Or.inl ⟨e1, e2⟩
    · have er : hedR len B (begR s) = (true, cst len B p v' R') := Prod.ext e1 e2
      rw [er, i6]
      exact lop_sim hlen hB 302 300 p v' R' g' c i2 i1 i5 (by omega) (by omega) (by omega)
  generalize lopR len B 300 (hedR len B (begR s)) = r at *
  generalize txL 302 (hdM (txA len b)) c = t at *
  obtain ⟨k1, k2, k3, k4, k5, -⟩ := j1
  rcases main with ⟨e1, e2⟩ | ⟨e1, q, v, R, g, e2, hq, hv, hd, h6, e3⟩
  · have ee : endR len r = r.2 := if_neg (by rw [e1]; intro z; cases z)
    have ft : ¬ t.1.2.2.1 = 0 := by rw [e2.1]; exact e2.2.1
    have et : ∀ q, txE t q = t := fun q => if_neg ft
    rw [ee, et]
    obtain ⟨f1, f2, f3, f4, f5⟩ := e2
    exact ⟨⟨f1, f3, f4⟩, f5, ⟨k4, k3, k5⟩, fun z => absurd z f2⟩
  · have ee : endR len r = if (setR r.2).1 = true then (setR r.2).2 else (nI len, 4, (setR r.2).2.2.2) := if_pos e1
    have ft : t.1.2.2.1 = 0 := by rw [e3]; rfl
    have et : ∀ q, txE t q = (if q.1 = true then bT t.1 q.2.1 else bWr (bT t.1 q.2.1) 4 (nI t.1.1), q.2.2) := fun q => if_pos ft
    obtain ⟨n1, n2, n3, n4⟩ := gst_n (len := len) (q := tkS len B q) (B := B) hd
    obtain ⟨s1, s3⟩ := set_sim (len := len) (q := q) (v := v) (B := B) hd t.2
    have h5 := arR_5 (n := R.2.2.2.1.1) (sh := R.2.2.2.1.2.2.1) (k := R.2.2.2.1.2.2.2.1) (bc := R.2.2.1) k4 k5
    have w := dat_W hd (fp := -1) (flt := 0) (st := tkS len B q) (en := tkE len B q) (kd := tkK len B q) (tkV_le (B := B) hq hv)
    have w : rsW (cst len B q v R) := w
    have w := set_W w
    rw [ee, et, e2, e3, n1, n2, n3, n4]
    rw [e3] at h5 k4 k3
    generalize hA : arR R.2.2.2.1.1 R.2.2.2.1.2.2.1 R.2.2.2.1.2.2.2.1 R.2.2.1 (gst len (tkS len B q) B g) t.2 = ar at *
    have u1 : (setR (cst len B q v R)).2.1 = -1 := rfl
    have u2 : (setR (cst len B q v R)).2.2.1 = 0 := rfl
    by_cases y : (setR (cst len B q v R)).1 = true
    · rw [if_pos y, if_pos (s1.symm.trans y)]
      exact ⟨⟨u2.symm, by rw [u2]; omega, u1.symm⟩, w, ⟨k4, k3, h5⟩, fun _ => ⟨u1, s3 y⟩⟩
    · rw [if_neg y, if_neg (fun z => y (s1.trans z))]
      have ew : bWr (bT (gst len (tkS len B q) B g) ar.2.1) 4 (nI (gst len (tkS len B q) B g).1) = (len, tkS len B q, 4, nI len, B, ar.2.1, g.2) := if_pos rfl
      rw [ew]
      exact ⟨⟨rfl, by show 4 ≤ 4; omega, rfl⟩, ⟨w.1, w.2.1, w.2.2.1, w.2.2.2⟩, ⟨k4, rfl, h5⟩, fun z => by cases z⟩
/-! ===== how many lines are left ===== -/
theorem lf_bit (ps : Nat → Int64) (g : Int64) (l : Nat) : ∀ m, btL (lfN ps g m) l = true ↔ btL g l = true ∧ ∀ j, j < m → btL (ps j) l = false
  | 0 => ⟨fun h => ⟨h, fun j hj => absurd hj (Nat.not_lt_zero _)⟩, fun h => h.1⟩
  | m + 1 => by
    show btL (lfN ps g m &&& (ps m ^^^ (-1))) l = true ↔ _
    rw [btL_mi, and9, lf_bit ps g l m]
    constructor
    · rintro ⟨⟨h1, h2⟩, h3⟩
      refine ⟨h1, fun j hj => ?_⟩
      by_cases q : j = m
      · subst q
        cases e : btL (ps j) l with
        | false => rfl
        | true => rw [e] at h3; cases h3
      · exact h2 j (by omega)
    · rintro ⟨h1, h2⟩
      exact ⟨⟨h1, fun j hj => h2 j (by omega)⟩, by rw [h2 m (by omega)]; rfl⟩
theorem lf_sb (ps : Nat → Int64) (g : Int64) (m : Nat) : sbL (lfN ps g m) g := fun l h => ((lf_bit ps g l m).mp h).1
theorem lf_pc {n : Nat} {g : Int64} {sh k pc : Nat} {ps : Nat → Int64} (hS : shOk sh k) (hn : n ≤ 11) (h : ptsOk n g sh k pc ps) : ∀ m, m ≤ pc → pcN (lfN ps g m) + m * k = pcN g
  | 0, _ => by rw [Nat.zero_mul]; rfl
  | m + 1, hm => by
    have ih := lf_pc hS hn h m (by omega)
    have hs : sbL (ps m) (lfN ps g m) := fun l hl => (lf_bit ps g l m).mpr ⟨(h.1 m (by omega)).2 l hl, fun j hj => by
      have := dj_iff.mp (h.2 m (by omega) j hj)
      cases e : btL (ps j) l with
      | false => rfl
      | true => rw [this l e] at hl; cases hl⟩
    have h1 := pc_sb hs
    rw [(h.1 m (by omega)).1.pc hS hn] at h1
    show pcN (lfN ps g m &&& (ps m ^^^ (-1))) + (m + 1) * k = pcN g
    rw [Nat.succ_mul]
    omega
theorem pts_55 {n : Nat} {g : Int64} {sh k pc : Nat} {ps : Nat → Int64} (hS : shOk sh k) (hn : n ≤ 11) (hg : ok55 g) (h : ptsOk n g sh k pc ps) : pc ≤ 55 := by
  have h1 := lf_pc hS hn h pc (Nat.le_refl _)
  have h2 := pc_55 hg
  obtain ⟨b1, b2, b3, -⟩ := shOk_b hS
  have : pc * 1 ≤ pc * k := Nat.mul_le_mul_left pc (by
    rcases hS with ⟨e1, e2⟩ | ⟨e1, e2, e3⟩ | ⟨e1, e2, e3⟩ | ⟨e1, e2, e3⟩ <;> omega)
  omega
