/-! ===== the calls that change something ===== -/
theorem by_rng (x s : Int32) : -128 ≤ (byI x s).toInt ∧ (byI x s).toInt ≤ 127 := by
  rw [byI_eq, Int8.toInt_toInt32]
  generalize ((x.toUInt32 >>> (s.toUInt32 &&& Int32.toUInt32 31)).toInt32.toInt8.toInt32).toInt8 = z
  have h1 := Int8.le_toInt z
  have h2 := Int8.toInt_lt z
  omega
theorem byOk_upd {F : Nat → Int32} {t : Nat} {v : Int32} (h : byOk F) (hv : -128 ≤ v.toInt ∧ v.toInt ≤ 127) : byOk (upd F t v) := fun j => by
  unfold upd
  by_cases q : j = t
  · rw [if_pos q]; exact hv
  · rw [if_neg q]; exact h j
theorem byOk_tp {F : Nat → Int32} {t : Nat} {x : Int32} (h : byOk F) : byOk (tpN F t x) := byOk_upd (byOk_upd (byOk_upd (byOk_upd h (by_rng _ _)) (by_rng _ _)) (by_rng _ _)) (by_rng _ _)
theorem st_feed (adK : Nat → Nat) (x1 x2 x3 x4 x5 : Int32) (b : Nat → Int32) (tp : Nat) (fp : Int32) (N : NS) (A : AS) (Q : QS) (C : CS) (W : WS) (Z : SS) (ask : Nat → Int32) (rf : Nat → Nat) (Y : MN) (P : Nat → MN) (a : G0) (b1 : G1) (c : G3) (e : G4) (f : G5) (g : G6) (h : G7) (hI : INV b tp fp N A Q C W rf Y P a b1 c e) : STQ mX6_feed mX7_feed adK 100 100 [.int x1, .int x2, .int x3, .int x4, .int x5] (hP b tp fp N A Q C W Z ask rf) (hM Y P a b1 c e f g h) (cC C.2.1 + potC e.1) (cS C.2.1 + potS e.1) okI := by
  have hI0 := hI
  obtain ⟨⟨hq, hrw⟩, ⟨hby, htp, ht3, hat, hafp⟩, ⟨hE, hac, harf⟩, ⟨hpl, hc5⟩, ⟨hC, hWk, hly⟩⟩ := hI0
  by_cases q : tp + 20 ≤ 300
  · have hy := m_feed adK 99 Y P a b1 c e f g h x1 x2 x3 x4 x5 (by omega)
    rw [hat] at hy
    refine stq_ok (p_feed adK 99 b tp fp N A Q C W Z ask rf hq x1 x2 x3 x4 x5 q) hy (LI_mk _ _ fp N A Q C W Z ask rf Y P _ _ c e f g h ?_) ⟨_, rfl⟩
    exact ⟨⟨hq, hrw⟩, ⟨byOk_tp (byOk_tp (byOk_tp (byOk_tp (byOk_tp hby)))), feed_eq htp, q, rfl, hafp⟩, ⟨hE, hac, harf⟩, ⟨hpl, hc5⟩, ⟨hC, hWk, hly⟩⟩
  · exact stq_ok (p_feedNo adK 99 b tp fp N A Q C W Z ask rf hq x1 x2 x3 x4 x5 (by omega) ht3) (m_feedNo adK 99 Y P a b1 c e f g h x1 x2 x3 x4 x5 (by omega) (by omega)) (LI_mk b tp fp N A Q C W Z ask rf Y P (0, a.2) b1 c e f g h (inv_0 hI)) ⟨_, rfl⟩
theorem st_undo (adK : Nat → Nat) (b : Nat → Int32) (tp : Nat) (fp : Int32) (N : NS) (A : AS) (Q : QS) (C : CS) (W : WS) (Z : SS) (ask : Nat → Int32) (rf : Nat → Nat) (Y : MN) (P : Nat → MN) (a : G0) (b1 : G1) (c : G3) (e : G4) (f : G5) (g : G6) (h : G7) (hI : INV b tp fp N A Q C W rf Y P a b1 c e) : STQ mX6_undo mX7_undo adK 100 100 [] (hP b tp fp N A Q C W Z ask rf) (hM Y P a b1 c e f g h) (cC C.2.1 + potC e.1) (cS C.2.1 + potS e.1) okI := by
  have hI0 := hI
  obtain ⟨⟨hq, hrw⟩, ⟨hby, htp, ht3, hat, hafp⟩, ⟨hE, hac, harf⟩, ⟨hpl, hc5⟩, ⟨hC, hWk, hly⟩⟩ := hI0
  have hk := hac.1
  by_cases q : A.1 = 0
  · exact stq_ok (p_undo0 adK 100 b tp fp N A Q C W Z ask rf hq q) (m_undo0 adK 99 Y P a b1 c e f g h (by omega)) (LI_mk b tp fp N A Q C W Z ask rf Y P (0, a.2) b1 c e f g h (inv_0 hI)) ⟨_, rfl⟩
  · obtain ⟨k1, k2⟩ := acR_back hac (by omega)
    have hy := m_undo adK 99 Y P a b1 c e f g h hac.2.1 (by omega)
    rw [← hk] at hy
    refine stq_ok (p_undo adK 97 b tp fp N A Q C W Z ask rf hq ⟨by rw [hk]; exact hac.2.1, hac.2.2.1⟩ (by omega)) hy (LI_mk b tp fp _ _ Q C W Z ask rf _ P _ b1 c e f g h ?_) ⟨_, rfl⟩
    rw [← hk] at k2
    exact ⟨⟨hq, hrw⟩, ⟨hby, htp, ht3, hat, hafp⟩, ⟨eqS_B k2 _, k1, harf⟩, ⟨hpl, hc5⟩, ⟨hC, hWk, hly⟩⟩
theorem shN_get (ps : Nat → Int64) (p : Nat) : ∀ m j, shN ps p m j = if p ≤ j ∧ j < p + m then ps (j + 1) else ps j
  | 0, j => by rw [if_neg (by omega)]; rfl
  | m + 1, j => by
    show vp_updL (shN ps p m) (p + m) (ps (p + m + 1)) j = _
    by_cases q : j = p + m
    · subst q; rw [pk_uLs, if_pos (by omega)]
    · rw [pk_uLn q, shN_get ps p m j]
      by_cases w : p ≤ j ∧ j < p + m
      · rw [if_pos w, if_pos (by omega)]
      · rw [if_neg w, if_neg (by omega)]
theorem pts_agree {n : Nat} {g : Int64} {sh k pc : Nat} {ps ps' : Nat → Int64} (h : ptsOk n g sh k pc ps) (e : ∀ j, j < pc → ps j = ps' j) : ptsOk n g sh k pc ps' :=
  ⟨fun i hi => by rw [← e i hi]; exact h.1 i hi, fun i hi j hj => by rw [← e i hi, ← e j (by omega)]; exact h.2 i hi j hj⟩
theorem pts_take {n : Nat} {g : Int64} {sh k pc : Nat} {ps : Nat → Int64} (h : ptsOk n g sh k pc ps) {p : Nat} (hp : p < pc) : ptsOk n g sh k (pc - 1) (shN ps p (pc - 1 - p)) := by
  have e : ∀ j, j < pc - 1 → ∃ j', j' < pc ∧ shN ps p (pc - 1 - p) j = ps j' ∧ ((j < p ∧ j' = j) ∨ (p ≤ j ∧ j' = j + 1)) := fun j hj => by
    rw [shN_get]
    by_cases q : p ≤ j ∧ j < p + (pc - 1 - p)
    · rw [if_pos q]; exact ⟨j + 1, by omega, rfl, Or.inr ⟨q.1, rfl⟩⟩
    · rw [if_neg q]; exact ⟨j, by omega, rfl, Or.inl ⟨by omega, rfl⟩⟩
  refine ⟨fun i hi => ?_, fun i hi j hj => ?_⟩
  · obtain ⟨i', h1, h2, h3⟩ := e i hi
    rw [h2]; exact h.1 i' h1
  · obtain ⟨i', h1, h2, h3⟩ := e i hi
    obtain ⟨j', g1, g2, g3⟩ := e j (by omega)
    rw [h2, g2]; exact h.2 i' h1 j' (by omega)
theorem st_take (adK : Nat → Nat) (x : Int32) (b : Nat → Int32) (tp : Nat) (fp : Int32) (N : NS) (A : AS) (Q : QS) (C : CS) (W : WS) (Z : SS) (ask : Nat → Int32) (rf : Nat → Nat) (Y : MN) (P : Nat → MN) (a : G0) (b1 : G1) (c : G3) (e : G4) (f : G5) (g : G6) (h : G7) (hI : INV b tp fp N A Q C W rf Y P a b1 c e) : STP mX6_take mX7_take adK 100 100 [.int x] (hP b tp fp N A Q C W Z ask rf) (hM Y P a b1 c e f g h) (cC C.2.1 + potC e.1) (cS C.2.1 + potS e.1) (cd1 "java/util/NoSuchElementException") okI := by
  have hI0 := hI
  obtain ⟨⟨hq, hrw⟩, ⟨hby, htp, ht3, hat, hafp⟩, ⟨hE, hac, harf⟩, ⟨hpl, hc5⟩, ⟨hC, hWk, hly⟩⟩ := hI0
  obtain ⟨hS, hn, hn2, hpc, h55, hsb⟩ := eqS_b hE
  obtain ⟨⟨y1, y2, y3, y4, y5, y6⟩, y7, ⟨bN, ybs, yB⟩, yr⟩ := id hE
  have hk := hac.1
  rcases bool_c (hasN N.2.2.2.2.1 x) with qx | qx
  · obtain ⟨p, hp, rfl⟩ := has_ex qx
    have hy := m_take adK 98 Y P a b1 c e f g h p hac.2.1 (by omega) (by omega)
    rw [y5] at hy
    refine stp_ok (p_take adK 97 b tp fp N A Q C W Z ask rf hq ⟨by rw [hk]; exact hac.2.1, hac.2.2.1⟩ p hpc hp) hy (LI_mk b tp fp _ _ Q C W Z ask rf _ _ _ b1 c e f g h ?_) ⟨_, rfl⟩
    refine ⟨⟨hq, hrw⟩, ⟨hby, htp, ht3, hat, hafp⟩, ⟨⟨⟨y1, y2, y3, y4, by show Y.2.2.2.2.1 - 1 = N.2.2.2.2.1 - 1; rw [y5], y6⟩, fun j hj => ?_, ⟨bN, ybs, yB⟩, yr.1, yr.2.1, yr.2.2.1, yr.2.2.2.1, pts_take yr.2.2.2.2 hp⟩, acR_keep hac (fun f => eqS_B hE f), harf⟩, ⟨hpl, hc5⟩, ⟨hC, hWk, hly⟩⟩
    have hj : j < N.2.2.2.2.1 - 1 := hj
    show shN N.2.2.2.2.2.2.1 p (N.2.2.2.2.1 - 1 - p) j = vp_updL (shN Y.2.2.2.2.2.2.1 p (Y.2.2.2.2.1 - 1 - p)) (Y.2.2.2.2.1 - 1) (lN 0) j
    rw [y5, pk_uLn (by omega), shN_get, shN_get]
    by_cases q : p ≤ j ∧ j < p + (N.2.2.2.2.1 - 1 - p)
    · rw [if_pos q, if_pos q]; exact y7 _ (by omega)
    · rw [if_neg q, if_neg q]; exact y7 _ (by omega)
  · exact stp_no (p_takeX adK 93 b tp fp N A Q C W Z ask rf hq x hpc qx) (m_takeX adK 98 Y P a b1 c e f g h x (by omega) (by rw [y5]; exact qx)) (LI_mk b tp fp N A Q C W Z ask _ Y P _ b1 c e f g h (inv_r hI 1 0)) cN1 (Or.inl rfl) ⟨_, rfl⟩
theorem lf_dj {ps : Nat → Int64} {g x : Int64} {m : Nat} (h : sbL x (lfN ps g m)) : sbL x g ∧ ∀ i, i < m → ps i &&& x = 0 := by
  refine ⟨h.trans (lf_sb ps g m), fun i hi => dj_iff.mpr (fun k hk => ?_)⟩
  cases e : btL x k with
  | false => rfl
  | true =>
    have := ((lf_bit ps g k m).mp (h k e)).2 i hi
    rw [this] at hk; cases hk
theorem put_lt {n : Nat} {g : Int64} {sh k pc : Nat} {ps : Nat → Int64} {x : Int64} (hS : shOk sh k) (hn : n ≤ 11) (hg : ok55 g) (h : ptsOk n g sh k pc ps) (hx : ptP n sh k x) (hs : sbL x (lfN ps g pc)) : pc < 55 := by
  obtain ⟨d1, d2⟩ := lf_dj hs
  have := pts_55 hS hn hg (pts_push h hx d1 d2)
  omega
theorem ask_eq (x1 x2 x3 x4 x5 : Int32) (ask : Nat → Int32) : ∀ j, j < 5 → xpI x1 x2 x3 x4 x5 j = askF x1 x2 x3 x4 x5 ask j := fun j hj => by
  have hj : j = 0 ∨ j = 1 ∨ j = 2 ∨ j = 3 ∨ j = 4 := by omega
  rcases hj with z | z | z | z | z <;> subst z <;> rfl
theorem st_put (adK : Nat → Nat) (x1 x2 x3 x4 x5 : Int32) (b : Nat → Int32) (tp : Nat) (fp : Int32) (N : NS) (A : AS) (Q : QS) (C : CS) (W : WS) (Z : SS) (ask : Nat → Int32) (rf : Nat → Nat) (Y : MN) (P : Nat → MN) (a : G0) (b1 : G1) (c : G3) (e : G4) (f : G5) (g : G6) (h : G7) (hI : INV b tp fp N A Q C W rf Y P a b1 c e) : STP mX6_put mX7_put adK 100 100 [.int x1, .int x2, .int x3, .int x4, .int x5] (hP b tp fp N A Q C W Z ask rf) (hM Y P a b1 c e f g h) (cC C.2.1 + potC e.1) (cS C.2.1 + potS e.1) (cd2 "java/lang/IllegalArgumentException" "java/lang/IllegalStateException") okI := by
  have hI0 := hI
  obtain ⟨⟨hq, hrw⟩, ⟨hby, htp, ht3, hat, hafp⟩, ⟨hE, hac, harf⟩, ⟨hpl, hc5⟩, ⟨hC, hWk, hly⟩⟩ := hI0
  obtain ⟨hS, hn, hn2, hpc, h55, hsb⟩ := eqS_b hE
  obtain ⟨⟨y1, y2, y3, y4, y5, y6⟩, y7, ⟨bN, ybs, yB⟩, yr⟩ := id hE
  have hk := hac.1
  have ep := pvX_eq (n := N.1) hS c (xpI x1 x2 x3 x4 x5) (askF x1 x2 x3 x4 x5 ask) (ask_eq x1 x2 x3 x4 x5 ask)
  have h5 := pvC_le c (xpI x1 x2 x3 x4 x5) 5
  have eP : pvX Y.1 Y.2.2.1 Y.2.2.2.1 c (xpI x1 x2 x3 x4 x5) = lpN N.1 N.2.2.1 N.2.2.2.1 (askF x1 x2 x3 x4 x5 ask) 0 (cntA (askF x1 x2 x3 x4 x5 ask) 5) := by rw [y1, y3, y4]; exact ep
  have hSY : shOk Y.2.2.1 Y.2.2.2.1 := by rw [y3, y4]; exact hS
  by_cases q1 : lpN N.1 N.2.2.1 N.2.2.2.1 (askF x1 x2 x3 x4 x5 ask) 0 (cntA (askF x1 x2 x3 x4 x5 ask) 5) = 0
  · refine stp_no (p_putXa adK 94 b tp fp N A Q C W Z ask rf hq x1 x2 x3 x4 x5 hS hn (by omega) hpc q1) (m_putXa adK 97 Y P a b1 c e f g h x1 x2 x3 x4 x5 hSY (by omega) (by omega) (by omega) (by rw [eP]; exact q1)) (LI_mk b tp fp N A Q C W Z _ _ Y P _ b1 _ e f g h ?_) cAS1 (Or.inl rfl) ⟨_, rfl⟩
    obtain ⟨r1, r2, r3, r4, r5⟩ := inv_r hI 1 1
    exact ⟨r1, r2, r3, ⟨r4.1, h5⟩, r5⟩
  · by_cases q2 : lpN N.1 N.2.2.1 N.2.2.2.1 (askF x1 x2 x3 x4 x5 ask) 0 (cntA (askF x1 x2 x3 x4 x5 ask) 5) &&& (lfN N.2.2.2.2.2.2.1 N.2.1 N.2.2.2.2.1 ^^^ (-1)) = 0
    · have hpt := lpN_pt hn (by omega) q1
      have hsb2 := sb_iff.mp q2
      have hlt := put_lt hS hn yr.2.2.2.1 yr.2.2.2.2 hpt hsb2
      obtain ⟨d1, d2⟩ := lf_dj hsb2
      have hy := m_put adK 97 Y P a b1 c e f g h x1 x2 x3 x4 x5 hSY (by omega) (by omega) (by omega) hac.2.1 (by omega) (by rw [eP]; exact q1) (by rw [eP, eqS_lf hE]; exact q2)
      rw [eP, y5] at hy
      refine stp_ok (p_put adK 94 b tp fp N A Q C W Z ask rf hq x1 x2 x3 x4 x5 ⟨by rw [hk]; exact hac.2.1, hac.2.2.1⟩ hS hn (by omega) hpc q1 q2 hlt) hy (LI_mk b tp fp _ _ Q C W Z _ rf _ _ _ b1 _ e f g h ?_) ⟨_, rfl⟩
      refine ⟨⟨hq, hrw⟩, ⟨hby, htp, ht3, hat, hafp⟩, ⟨⟨⟨y1, y2, y3, y4, rfl, y6⟩, fun j hj => ?_, ⟨bN, ybs, yB⟩, yr.1, yr.2.1, yr.2.2.1, yr.2.2.2.1, pts_push yr.2.2.2.2 hpt d1 d2⟩, acR_keep hac (fun f => eqS_B hE f), harf⟩, ⟨hpl, h5⟩, ⟨hC, hWk, hly⟩⟩
      have hj : j < N.2.2.2.2.1 + 1 := hj
      generalize lpN N.1 N.2.2.1 N.2.2.2.1 (askF x1 x2 x3 x4 x5 ask) 0 (cntA (askF x1 x2 x3 x4 x5 ask) 5) = v
      show vp_updL N.2.2.2.2.2.2.1 N.2.2.2.2.1 v j = vp_updL Y.2.2.2.2.2.2.1 N.2.2.2.2.1 v j
      by_cases q : j = N.2.2.2.2.1
      · subst q; rw [pk_uLs, pk_uLs]
      · rw [pk_uLn q, pk_uLn q]; exact y7 j (by omega)
    · refine stp_no (p_putXb adK 94 b tp fp N A Q C W Z ask rf hq x1 x2 x3 x4 x5 hS hn (by omega) hpc q1 q2) (m_putXb adK 97 Y P a b1 c e f g h x1 x2 x3 x4 x5 hSY (by omega) (by omega) (by omega) (by rw [eP]; exact q1) (by rw [eP, eqS_lf hE]; exact q2)) (LI_mk b tp fp N A Q C W Z _ _ Y P _ b1 _ e f g h ?_) cAS2 (Or.inr rfl) ⟨_, rfl⟩
      obtain ⟨r1, r2, r3, r4, r5⟩ := inv_r hI 2 2
      exact ⟨r1, r2, r3, ⟨r4.1, h5⟩, r5⟩
theorem st_develop (adK : Nat → Nat) (b : Nat → Int32) (tp : Nat) (fp : Int32) (N : NS) (A : AS) (Q : QS) (C : CS) (W : WS) (Z : SS) (ask : Nat → Int32) (rf : Nat → Nat) (Y : MN) (P : Nat → MN) (a : G0) (b1 : G1) (c : G3) (e : G4) (f : G5) (g : G6) (h : G7) (hI : INV b tp fp N A Q C W rf Y P a b1 c e) : STP mX6_develop mX7_develop adK 100 100 [] (hP b tp fp N A Q C W Z ask rf) (hM Y P a b1 c e f g h) (cC C.2.1 + potC e.1) (cS C.2.1 + potS e.1) (cd1 "java/lang/IllegalStateException") okI := by
  have hI0 := hI
  obtain ⟨⟨hq, hrw⟩, ⟨hby, htp, ht3, hat, hafp⟩, ⟨hE, hac, harf⟩, ⟨hpl, hc5⟩, ⟨hC, hWk, hly⟩⟩ := hI0
  obtain ⟨hS, hn, hn2, hpc, h55, hsb⟩ := eqS_b hE
  obtain ⟨⟨y1, y2, y3, y4, y5, y6⟩, y7, ⟨bN, ybs, yB⟩, yr⟩ := id hE
  have hk := hac.1
  have hSY : shOk Y.2.2.1 Y.2.2.2.1 := by rw [y3, y4]; exact hS
  have hb4 := yB.1
  have hbN := yB.2.1
  have ci := cd_iff (bc := N.2.2.2.2.2.1) (bN := bN) hS hn (show 1 ≤ N.1 by omega)
  rcases bool_c (cdN N.1 N.2.2.1 N.2.2.2.1 bN N.2.2.2.2.2.1) with q | q
  · have hx := p_develop adK 94 b tp fp N A Q C W Z ask rf hq ⟨by rw [hk]; exact hac.2.1, hac.2.2.1⟩ bN ybs hS hn (by omega) hpc (by omega) hbN q
    have ci := ci.mp q
    have c1 : 3 ≤ N.1 := by rcases Nat.lt_or_ge N.1 3 with z | z; exact absurd (Or.inl z) ci; exact z
    have c2 : N.2.2.2.2.2.1 ≠ 0 := fun z => ci (Or.inr (Or.inl z))
    have c3 : bdN N.2.2.1 N.2.2.2.1 bN N.1 N.2.2.2.2.2.1 0 (N.1 / 2 + 1) = -1 := Decidable.byContradiction fun z => ci (Or.inr (Or.inr (Or.inl z)))
    have c4 : unP (plN N.2.2.1 N.2.2.2.1) N.2.2.2.2.2.1 bN N.1 := Decidable.byContradiction fun z => ci (Or.inr (Or.inr (Or.inr z)))
    have hy := m_develop adK 96 Y P a b1 c e f g h bN hSY yB (by omega) (by omega) (by omega) (by rw [y1, y3, y4, y6]; exact c3) (by rw [y1, y3, y4, y6]; exact c4) hac.2.1 hc5
    rw [y1, y3, y4, y6] at hy
    refine ⟨_, _, 0, 0, 0, 0, hx, hy, by omega, by omega, ⟨_, _, (c.1, 0), Nat.zero_le _, rfl, rfl⟩, fun r h1 e1 r' h2 e2 => ?_⟩
    obtain ⟨sf, e3, e4⟩ := e1
    obtain ⟨c', k5, e5, e6⟩ := e2
    refine ⟨0, (cC C.2.1 + potC e.1), (cS C.2.1 + potS e.1), ?_, by omega, by omega, Or.inl ⟨_, e3, rfl, e5, _, rfl⟩⟩
    obtain ⟨v1, v2⟩ := dv_ok (ps := N.2.2.2.2.2.2.1) hS hn c1 c3 c4
    rw [e4, e6]
    refine LI_mk b tp fp _ _ Q C W Z ask rf _ _ _ b1 c' e f g h ?_
    exact ⟨⟨hq, hrw⟩, ⟨hby, htp, ht3, hat, hafp⟩, ⟨⟨⟨y1, rfl, y3, y4, rfl, y6⟩, fun j hj => dvPs_agree _ j hj, ⟨bN, ybs, yB⟩, yr.1, yr.2.1, yr.2.2.1, v1, v2⟩, acR_keep hac (fun f => eqS_B hE f), harf⟩, ⟨hpl, k5⟩, ⟨hC, hWk, hly⟩⟩
  · have hx := p_developX adK 94 b tp fp N A Q C W Z ask rf hq bN ybs hS hn (by omega) hpc (by omega) hbN q
    have ci2 : N.1 < 3 ∨ N.2.2.2.2.2.1 = 0 ∨ bdN N.2.2.1 N.2.2.2.1 bN N.1 N.2.2.2.2.2.1 0 (N.1 / 2 + 1) ≠ -1 ∨ ¬ unP (plN N.2.2.1 N.2.2.2.1) N.2.2.2.2.2.1 bN N.1 := Decidable.byContradiction fun z => by have := ci.mpr z; rw [q] at this; cases this
    have hy := m_developX adK 96 Y P a b1 c e f g h bN hSY yB (by omega) (by omega) (by rw [y1, y3, y4, y6]; exact ci2)
    refine ⟨_, _, 1, 6, 0, 0, hx, hy, by omega, by omega, ⟨_, _, rfl, rfl⟩, fun r h1 e1 r' h2 e2 => ?_⟩
    obtain ⟨sf, e3, e4⟩ := e1
    refine ⟨1, (cC C.2.1 + potC e.1), (cS C.2.1 + potS e.1), ?_, by omega, by omega, Or.inr ⟨_, _, e3, e2.1, cS1, by omega, by omega, _, rfl⟩⟩
    rw [e4, e2.2]
    refine LI_mk b tp fp _ A Q C W Z ask _ Y P _ b1 c e f g h ?_
    obtain ⟨r1, r2, r3, r4, r5⟩ := inv_r hI 1 2
    exact ⟨r1, r2, ⟨eqS_B r3.1 sf, r3.2⟩, r4, r5⟩
theorem st_text (adK : Nat → Nat) (x : Int32) (b : Nat → Int32) (tp : Nat) (fp : Int32) (N : NS) (A : AS) (Q : QS) (C : CS) (W : WS) (Z : SS) (ask : Nat → Int32) (rf : Nat → Nat) (Y : MN) (P : Nat → MN) (a : G0) (b1 : G1) (c : G3) (e : G4) (f : G5) (g : G6) (h : G7) (hI : INV b tp fp N A Q C W rf Y P a b1 c e) : STP mX6_text mX7_text adK 100 100 [.int x] (hP b tp fp N A Q C W Z ask rf) (hM Y P a b1 c e f g h) (cC C.2.1 + potC e.1) (cS C.2.1 + potS e.1) (cd1 "java/lang/IllegalArgumentException") okI := by
  have hI0 := hI
  obtain ⟨⟨hq, hrw⟩, ⟨hby, htp, ht3, hat, hafp⟩, ⟨hE, hac, harf⟩, ⟨hpl, hc5⟩, ⟨hC, hWk, hly⟩⟩ := hI0
  have hk := hac.1
  rcases bool_c (hasN (tp + 1) x) with q | q
  · obtain ⟨len, hl, rfl⟩ := has_ex q
    obtain ⟨hsm, hB⟩ := tp_sm hby htp
    have hB : bKn b1.2.2.2.2.1 := hB
    obtain ⟨⟨s1, s2, s3⟩, s4, ⟨s5, s6, s7⟩, s8⟩ := tx_sim (len := len) (by omega) hby htp Q.2.2 hrw b1 rfl hpl c hc5
    have hJ := hed_J (len := len) (by omega) hB Q.2.2 hrw b1 rfl hpl c hc5
    have I1 : ∀ b c, rdJ len b1.2.2.2.2.1 b c → rdI b c := fun b c h => rdJ_I (by omega) h
    have I2 : ∀ b c, rdJ len b1.2.2.2.2.1 b c → b.2.2.1 = 0 → ¬ byM b (tkP b) = -1 → rdJ len b1.2.2.2.2.1 (liM (nF b) (bF b) (heB b) c).1 (liM (nF b) (bF b) (heB b) c).2 ∧ (liM (nF b) (bF b) (heB b) c).1.1 = b.1 ∧ ((liM (nF b) (bF b) (heB b) c).1.2.2.1 = 0 → b.2.1 < (liM (nF b) (bF b) (heB b) c).1.2.1) := fun b c h hf _ => rdJ_step (by omega) hB h hf
    have I4 := I1 _ _ (txL_J (by omega) hB 302 _ _ hJ)
    obtain ⟨w1, w2, w3, w4⟩ := hrw
    by_cases q0 : (reaR len b Q.2.2).2.1 = 0
    · obtain ⟨f1, Y', f2, f3⟩ := s8 q0
      obtain ⟨hS', hn', hn2', hpc', h55', hsb'⟩ := eqS_b f2
      have hx := p_text adK 92 b tp fp N A Q C W Z ask rf hq ⟨by rw [hk]; exact hac.2.1, hac.2.2.1⟩ len ht3 (by omega) w1 w2 w3 q0 hpc'
      have hy := m_text adK 93 Y P a b1 c e f g h len (by omega) (by omega) hac.2.1 (rdJ len b1.2.2.2.2.1) hJ I2 I1 I4 (by rw [s1]; exact q0) Y' f3 (by rw [f2.1.2.2.2.2.1]; omega) (by rw [eqS_lf f2]; exact h55')
      rw [eqS_lf f2, s3, f1] at hy
      refine stp_ok hx hy (LI_mk b _ _ _ _ _ C W Z ask rf _ _ _ _ _ e f g h ?_) ⟨_, rfl⟩
      exact ⟨⟨Or.inl rfl, s4⟩, ⟨hby, by show tpR (txR len b1 c).1.2.2.2.2.1 b; rw [s6]; exact htp, Nat.zero_le _, rfl, rfl⟩, ⟨eqS_B f2 _, acR_keep hac (fun f => eqS_B hE f), harf⟩, ⟨s5, s7⟩, ⟨hC, hWk, hly⟩⟩
    · have hx := p_textF adK 92 b tp fp N A Q C W Z ask rf hq len ht3 (by omega) w1 w2 w3 q0 s2
      have hy := m_textF adK 93 Y P a b1 c e f g h len (by omega) (by omega) (rdJ len b1.2.2.2.2.1) hJ I2 I1 I4 (by rw [s1]; exact q0) (by rw [s1]; exact s2)
      rw [s1, s3] at hy
      refine stp_ok hx hy (LI_mk b _ _ N A _ C W Z ask rf Y P _ _ _ e f g h ?_) ⟨_, rfl⟩
      exact ⟨⟨Or.inl rfl, s4⟩, ⟨hby, by show tpR (txR len b1 c).1.2.2.2.2.1 b; rw [s6]; exact htp, Nat.zero_le _, rfl, rfl⟩, ⟨hE, hac, harf⟩, ⟨s5, s7⟩, ⟨hC, hWk, hly⟩⟩
  · have := has_no q
    exact stp_no (p_textX adK 94 b tp fp N A Q C W Z ask rf hq x ht3 q) (m_textX adK 99 Y P a b1 c e f g h x (by omega) (by omega)) (LI_mk b tp fp N A Q C W Z ask _ Y P _ b1 c e f g h (inv_r hI 1 1)) cA1 (Or.inl rfl) ⟨_, rfl⟩
