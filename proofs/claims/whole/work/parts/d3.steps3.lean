/-! ===== the calls that ask the catalog ===== -/
theorem ly_cnt {Y : MN} {c : G3} {e : G4} {n sh k : Nat} (h : lyT (lyG Y c e) n sh k) (x : Int64) : ptC (lyG Y c e).2.1 x (lyG Y c e).2.2.2.2.2.2.2.2 = ((apS n sh k).filter (inG x)).length := by
  rw [pt_len, h.1.2.2.2, h.2.2.1]
theorem inv_c {b : Nat → Int32} {tp : Nat} {fp : Int32} {N : NS} {A : AS} {Q : QS} {C : CS} {W : WS} {rf : Nat → Nat} {Y : MN} {P : Nat → MN} {a : G0} {b1 : G1} {c : G3} {e : G4} (hI : INV b tp fp N A Q C W rf Y P a b1 c e) {C' : CS} {W' : WS} {c' : G3} {e' : G4} (h1 : csOk C') (h2 : wkR W') (h3 : c'.2 ≤ 5) (h4 : lyR e') : INV b tp fp N A Q C' W' rf Y P (0, a.2) b1 c' e' := by
  obtain ⟨r1, r2, r3, r4, r5⟩ := hI
  exact ⟨r1, r2, r3, ⟨r4.1, h3⟩, ⟨h1, h2, h4⟩⟩
theorem st_parts (adK : Nat → Nat) (x : Int32) (b : Nat → Int32) (tp : Nat) (fp : Int32) (N : NS) (A : AS) (Q : QS) (C : CS) (W : WS) (Z : SS) (ask : Nat → Int32) (rf : Nat → Nat) (Y : MN) (P : Nat → MN) (a : G0) (b1 : G1) (c : G3) (e : G4) (f : G5) (g : G6) (h : G7) (hI : INV b tp fp N A Q C W rf Y P a b1 c e) : STP mX6_parts mX7_parts adK 100 100 [.int x] (hP b tp fp N A Q C W Z ask rf) (hM Y P a b1 c e f g h) (cC C.2.1 + potC e.1) (cS C.2.1 + potS e.1) (cd1 "java/lang/IllegalArgumentException") okI := by
  have hI0 := hI
  obtain ⟨⟨hq, hrw⟩, ⟨hby, htp, ht3, hat, hafp⟩, ⟨hE, hac, harf⟩, ⟨hpl, hc5⟩, ⟨hC, hWk, hly⟩⟩ := hI0
  obtain ⟨hS, hn, hn2, hpc, h55, hsb⟩ := eqS_b hE
  obtain ⟨⟨y1, y2, y3, y4, y5, y6⟩, y7, ⟨bN, ybs, yB⟩, yr⟩ := id hE
  obtain ⟨lP, lO, lT, lR, l5, lb1, lb2⟩ := ly_ok (Y := Y) (c := c) (e := e) (by rw [y3, y4]; exact hS) (by omega) (by omega) hc5 hly
  obtain ⟨hlen, cb1, cb2⟩ := cat_b hS hn hC
  rw [y1, y3, y4] at lT
  rcases bool_c (hasN 2 x) with q | q
  · obtain ⟨j, hj, rfl⟩ := has_ex q
    have hj : j = 0 ∨ j = 1 := by omega
    rcases hj with z | z <;> subst z
    · have hy := m_parts0 adK 78 Y P a b1 c e f g h lP lO (by omega)
      rw [ly_cnt lT, y2] at hy
      refine ⟨_, _, _, _, _, _, p_parts0 adK 90 b tp fp N A Q C W Z ask rf hq hS hn (by omega) hpc hC hlen, hy, by omega, by omega, ⟨_, _, rfl, rfl⟩, fun r h1 e1 r' h2 e2 => ?_⟩
      obtain ⟨s, hs, e3, e4⟩ := e1
      try dsimp only at e3 e4
      obtain ⟨f1, f2, f3, f4⟩ := cat_f hS hn (by omega) hs
      refine ⟨0, cC (rC C N) + potC (lyG Y c e).1, cS (rC C N) + potS (lyG Y c e).1, ?_, by omega, by omega, Or.inl ⟨_, e3, rfl, ?_, _, rfl⟩⟩
      · rw [e4, e2.2]
        exact LI_mk b tp fp N A Q (ctF C N s) W Z ask rf Y P _ b1 _ _ f g h (inv_c hI hs hWk l5 lR)
      · rw [e2.1, ← f1, sg_len]
    · have hy := m_parts1 adK 78 Y P a b1 c e f g h lP lO (by omega)
      rw [eqS_lf hE, ly_cnt lT] at hy
      refine ⟨_, _, _, _, _, _, p_parts1 adK 90 b tp fp N A Q C W Z ask rf hq hS hn (by omega) hpc hC hlen, hy, by omega, by omega, ⟨_, _, rfl, rfl⟩, fun r h1 e1 r' h2 e2 => ?_⟩
      obtain ⟨s, hs, e3, e4⟩ := e1
      try dsimp only at e3 e4
      obtain ⟨f1, f2, f3, f4⟩ := cat_f hS hn (by omega) hs
      refine ⟨0, cC (rC C N) + potC (lyG Y c e).1, cS (rC C N) + potS (lyG Y c e).1, ?_, by omega, by omega, Or.inl ⟨_, e3, rfl, ?_, _, rfl⟩⟩
      · rw [e4, e2.2]
        exact LI_mk b tp fp N A Q (ctF C N s) W Z ask rf Y P _ b1 _ _ f g h (inv_c hI hs hWk l5 lR)
      · rw [e2.1, cw_len, f1, fl_in hsb]
  · have := has_no q
    exact stp_no (p_partsX adK 93 b tp fp N A Q C W Z ask rf hq x q) (m_partsX adK 78 Y P a b1 c e f g h x (by omega)) (LI_mk b tp fp N A Q C W Z ask _ Y P _ b1 c e f g h (inv_r hI 1 1)) cA1 (Or.inl rfl) ⟨_, rfl⟩
theorem paQ_ne (R : Option Int64) (W1 W2 : List pnE) : ∃ r h, paQ R W1 W2 r h := by
  cases R with
  | none => exact ⟨_, _, rfl, rfl⟩
  | some v => exact ⟨_, _, rfl, rfl⟩
theorem st_partAt (adK : Nat → Nat) (x : Int32) (b : Nat → Int32) (tp : Nat) (fp : Int32) (N : NS) (A : AS) (Q : QS) (C : CS) (W : WS) (Z : SS) (ask : Nat → Int32) (rf : Nat → Nat) (Y : MN) (P : Nat → MN) (a : G0) (b1 : G1) (c : G3) (e : G4) (f : G5) (g : G6) (h : G7) (hI : INV b tp fp N A Q C W rf Y P a b1 c e) : STP mX6_partAt mX7_partAt adK 100 100 [.int x] (hP b tp fp N A Q C W Z ask rf) (hM Y P a b1 c e f g h) (cC C.2.1 + potC e.1) (cS C.2.1 + potS e.1) (cd1 "java/util/NoSuchElementException") okL := by
  have hI0 := hI
  obtain ⟨⟨hq, hrw⟩, ⟨hby, htp, ht3, hat, hafp⟩, ⟨hE, hac, harf⟩, ⟨hpl, hc5⟩, ⟨hC, hWk, hly⟩⟩ := hI0
  obtain ⟨hS, hn, hn2, hpc, h55, hsb⟩ := eqS_b hE
  obtain ⟨⟨y1, y2, y3, y4, y5, y6⟩, y7, ⟨bN, ybs, yB⟩, yr⟩ := id hE
  obtain ⟨lP, lO, lT, lR, l5, lb1, lb2⟩ := ly_ok (Y := Y) (c := c) (e := e) (by rw [y3, y4]; exact hS) (by omega) (by omega) hc5 hly
  obtain ⟨hlen, cb1, cb2⟩ := cat_b hS hn hC
  rw [y1, y3, y4] at lT
  have eR : paK (lyG Y c e).2.1 (lfN Y.2.2.2.2.2.2.1 Y.2.1 Y.2.2.2.2.1) x (lyG Y c e).2.2.2.2.2.2.2.2 0 0 = ltA x 0 ((apS N.1 N.2.2.1 N.2.2.2.1).filter (inG (lfN N.2.2.2.2.2.2.1 N.2.1 N.2.2.2.2.1))) := by
    rw [pa_lt, eqS_lf hE, lT.1.2.2.2, lT.2.2.1]
  have hy := m_partAt adK 79 Y P a b1 c e f g h lP lO (by omega) x (ltA x 0 ((apS N.1 N.2.2.1 N.2.2.2.1).filter (inG (lfN N.2.2.2.2.2.2.1 N.2.1 N.2.2.2.2.1)))) eR
  refine ⟨_, _, _, _, _, _, p_partAt adK 90 b tp fp N A Q C W Z ask rf hq hS hn (by omega) hpc hC hlen x, hy, by omega, by omega, paQ_ne _ _ _, fun r h1 e1 r' h2 e2 => ?_⟩
  obtain ⟨s, hs, e3, e4⟩ := e1
  try dsimp only at e3 e4
  obtain ⟨f1, f2, f3, f4⟩ := cat_f hS hn (by omega) hs
  have hl : ((apS N.1 N.2.2.1 N.2.2.2.1).filter (inG (lfN N.2.2.2.2.2.2.1 N.2.1 N.2.2.2.2.1))).length ≤ 27720 := Nat.le_trans (List.length_filter_le _ _) (by rw [apS_len]; exact ap_27 hS hn)
  have ea : ptA s.1 (lfN N.2.2.2.2.2.2.1 N.2.1 N.2.2.2.2.1) x (lnC N) = (ltA x 0 ((apS N.1 N.2.2.1 N.2.2.2.1).filter (inG (lfN N.2.2.2.2.2.2.1 N.2.1 N.2.2.2.2.1)))).getD 0 := by
    unfold ptA
    by_cases z : x < 0
    · rw [if_pos z, lt_neg z _ 0 (by omega)]; rfl
    · rw [if_neg z, wi_lt, f1, fl_in hsb]
  cases hv : ltA x 0 ((apS N.1 N.2.2.1 N.2.2.2.1).filter (inG (lfN N.2.2.2.2.2.2.1 N.2.1 N.2.2.2.2.1))) with
  | none =>
    rw [hv] at e2 ea
    have ea : ptA s.1 (lfN N.2.2.2.2.2.2.1 N.2.1 N.2.2.2.2.1) x (lnC N) = 0 := ea
    refine ⟨1, cC (rC C N) + potC (lyG Y c e).1, cS (rC C N) + potS (lyG Y c e).1, ?_, by omega, by omega, Or.inr ⟨"java/util/NoSuchElementException", _, by rw [e3]; exact if_pos ea, e2.1, cN1, by omega, by omega, _, rfl⟩⟩
    rw [e4, if_pos ea, e2.2]
    refine LI_mk b tp fp N A Q (ctF C N s) W Z ask _ Y P _ b1 _ _ f g h ?_
    obtain ⟨r1, r2, r3, r4, r5⟩ := inv_r hI 1 0
    exact ⟨r1, r2, r3, ⟨r4.1, l5⟩, ⟨hs, hWk, lR⟩⟩
  | some v =>
    rw [hv] at e2 ea
    have ea : ptA s.1 (lfN N.2.2.2.2.2.2.1 N.2.1 N.2.2.2.2.1) x (lnC N) = v := ea
    have hm := lt_mem hv
    have hv0 : ¬ v = 0 := ((apS_mem hS hn v).mp (List.mem_filter.mp hm).1).ne hS hn
    refine ⟨0, cC (rC C N) + potC (lyG Y c e).1, cS (rC C N) + potS (lyG Y c e).1, ?_, by omega, by omega, Or.inl ⟨.long v, ?_, rfl, e2.1, _, rfl⟩⟩
    · rw [e4, if_neg (by rw [ea]; exact hv0), e2.2]
      exact LI_mk b tp fp N A Q (ctF C N s) W Z ask rf Y P _ b1 _ _ f g h (inv_c hI hs hWk l5 lR)
    · rw [e3]
      unfold ptR
      rw [if_neg (by rw [ea]; exact hv0), ea]
/-! search and finish -/
theorem ly_G {e : G4} {n sh k : Nat} (hS : shOk sh k) (hn : n ≤ 11) (h : lyT e n sh k) : (∀ x, ok55 x → ¬ x = lN 0 → llN x + 1 < 57) ∧ ∀ x i, ok55 x → i < e.2.2.2.2.2.2.2.2 → e.2.1 i &&& (x ^^^ (-1)) = lN 0 → ok55 (x &&& (e.2.1 i ^^^ (-1))) ∧ pcN (x &&& (e.2.1 i ^^^ (-1))) < pcN x := by
  refine ⟨fun x h1 h2 => by have := h1.ll h2; omega, fun x i h1 h2 h3 => ?_⟩
  have hs := sb_iff.mp h3
  have hp := (lyT_f hS hn h).1 i (by rw [← h.1.2.2.2]; exact h2)
  have h4 := pc_sb hs
  have h5 := pc_pos (hp.ne hS hn)
  exact ⟨h1.sb (fun k hk => by rw [btL_mi, and9] at hk; exact hk.1), by omega⟩
theorem gs_sa {Y : MN} {c : G3} {e : G4} {n sh k : Nat} (hS : shOk sh k) (hn : n ≤ 11) (h : lyT (lyG Y c e) n sh k) (once : Bool) {x : Int64} (hx : ok55 x) (g : G6) : grS [] (gsF (lyG Y c e) once 56 x 0 (g.1, g.2.1, 0, 0, 0, false)) (saF (apS n sh k) once 56 x [] (0, 0, false, [])) :=
  gsF_sa (P := apS n sh k) (fun l hl => (lyT_s hS hn h hl).2.2) 56 x [] _ _ hx ⟨rfl, rfl, rfl, fun z => absurd rfl z, fun i hi => by cases hi⟩
theorem st_search (adK : Nat → Nat) (x : Int32) (b : Nat → Int32) (tp : Nat) (fp : Int32) (N : NS) (A : AS) (Q : QS) (C : CS) (W : WS) (Z : SS) (ask : Nat → Int32) (rf : Nat → Nat) (Y : MN) (P : Nat → MN) (a : G0) (b1 : G1) (c : G3) (e : G4) (f : G5) (g : G6) (h : G7) (hI : INV b tp fp N A Q C W rf Y P a b1 c e) : STP mX6_search mX7_search adK 100 100 [.int x] (hP b tp fp N A Q C W Z ask rf) (hM Y P a b1 c e f g h) (cC C.2.1 + potC e.1) (cS C.2.1 + potS e.1) (cd1 "java/lang/IllegalArgumentException") okI := by
  have hI0 := hI
  obtain ⟨⟨hq, hrw⟩, ⟨hby, htp, ht3, hat, hafp⟩, ⟨hE, hac, harf⟩, ⟨hpl, hc5⟩, ⟨hC, hWk, hly⟩⟩ := hI0
  obtain ⟨hS, hn, hn2, hpc, h55, hsb⟩ := eqS_b hE
  obtain ⟨⟨y1, y2, y3, y4, y5, y6⟩, y7, ⟨bN, ybs, yB⟩, yr⟩ := id hE
  obtain ⟨lP, lO, lT, lR, l5, lb1, lb2⟩ := ly_ok (Y := Y) (c := c) (e := e) (by rw [y3, y4]; exact hS) (by omega) (by omega) hc5 hly
  obtain ⟨hlen, cb1, cb2⟩ := cat_b hS hn hC
  rw [y1, y3, y4] at lT
  obtain ⟨g1, g2⟩ := ly_G hS hn lT
  have hG3 : ok55 (lfN Y.2.2.2.2.2.2.1 Y.2.1 Y.2.2.2.2.1) := by rw [eqS_lf hE]; exact h55
  have hM3 : pcN (lfN Y.2.2.2.2.2.2.1 Y.2.1 Y.2.2.2.2.1) < 56 := by have := pc_55 hG3; omega
  have hg := gs_sa hS hn lT false h55 g
  rcases bool_c (hasN 3 x) with q | q
  · obtain ⟨j, hj, rfl⟩ := has_ex q
    have hj : j = 0 ∨ j = 1 ∨ j = 2 := by omega
    rcases hj with z | z | z <;> subst z
    · have hy := m_search0 adK 41 Y P a b1 c e f g h lP lO ok55 pcN g1 g2 hG3 hM3 (by omega)
      rw [eqS_lf hE, hg.1] at hy
      refine ⟨_, _, _, _, _, _, p_search0 adK 90 b tp fp N A Q C W Z ask rf hq hS hn (by omega) hpc hC hlen hWk.1, hy, by omega, by omega, ⟨_, _, rfl, rfl⟩, fun r h1 e1 r' h2 e2 => ?_⟩
      obtain ⟨s, hs, e3, e4⟩ := e1
      try dsimp only at e3 e4
      obtain ⟨w1, w2⟩ := gow_ok false hS hn (by omega) hs hWk hsb h55
      have w2 := w2.elim id id
      refine ⟨0, cC (rC C N) + potC (lyG Y c e).1, cS (rC C N) + potS (lyG Y c e).1, ?_, by omega, by omega, Or.inl ⟨_, e3, rfl, ?_, _, rfl⟩⟩
      · rw [e4, e2.2]
        exact LI_mk b tp fp N A Q (ctF C N s) _ Z ask rf Y P _ b1 _ _ f _ h (inv_c hI hs w1 l5 lR)
      · have w : (goW (ctF C N s) W false (lfN N.2.2.2.2.2.2.1 N.2.1 N.2.2.2.2.1)).1 = _ := w2.1
        rw [e2.1, w]
    · have hy := m_search1 adK 41 Y P a b1 c e f g h lP lO ok55 pcN g1 g2 hG3 hM3 (by omega)
      rw [eqS_lf hE, hg.2.1] at hy
      refine ⟨_, _, _, _, _, _, p_search1 adK 90 b tp fp N A Q C W Z ask rf hq hS hn (by omega) hpc hC hlen hWk.1, hy, by omega, by omega, ⟨_, _, rfl, rfl⟩, fun r h1 e1 r' h2 e2 => ?_⟩
      obtain ⟨s, hs, e3, e4⟩ := e1
      try dsimp only at e3 e4
      obtain ⟨w1, w2⟩ := gow_ok false hS hn (by omega) hs hWk hsb h55
      have w2 := w2.elim id id
      refine ⟨0, cC (rC C N) + potC (lyG Y c e).1, cS (rC C N) + potS (lyG Y c e).1, ?_, by omega, by omega, Or.inl ⟨_, e3, rfl, ?_, _, rfl⟩⟩
      · rw [e4, e2.2]
        exact LI_mk b tp fp N A Q (ctF C N s) _ Z ask rf Y P _ b1 _ _ f _ h (inv_c hI hs w1 l5 lR)
      · have w : (goW (ctF C N s) W false (lfN N.2.2.2.2.2.2.1 N.2.1 N.2.2.2.2.1)).2.1 = _ := w2.2.1
        rw [e2.1, w]
    · have hy := m_search2 adK 41 Y P a b1 c e f g h lP lO ok55 pcN g1 g2 hG3 hM3 (by omega)
      rw [eqS_lf hE, hg.2.2.1] at hy
      refine ⟨_, _, _, _, _, _, p_search2 adK 90 b tp fp N A Q C W Z ask rf hq hS hn (by omega) hpc hC hlen hWk.1, hy, by omega, by omega, ⟨_, _, rfl, rfl⟩, fun r h1 e1 r' h2 e2 => ?_⟩
      obtain ⟨s, hs, e3, e4⟩ := e1
      try dsimp only at e3 e4
      obtain ⟨w1, w2⟩ := gow_ok false hS hn (by omega) hs hWk hsb h55
      have w2 := w2.elim id id
      refine ⟨0, cC (rC C N) + potC (lyG Y c e).1, cS (rC C N) + potS (lyG Y c e).1, ?_, by omega, by omega, Or.inl ⟨_, e3, rfl, ?_, _, rfl⟩⟩
      · rw [e4, e2.2]
        exact LI_mk b tp fp N A Q (ctF C N s) _ Z ask rf Y P _ b1 _ _ f _ h (inv_c hI hs w1 l5 lR)
      · have w : (goW (ctF C N s) W false (lfN N.2.2.2.2.2.2.1 N.2.1 N.2.2.2.2.1)).2.2.1 = _ := w2.2.2.1
        rw [e2.1, w]
  · have := has_no q
    exact stp_no (p_searchX adK 93 b tp fp N A Q C W Z ask rf hq x q) (m_searchX adK 41 Y P a b1 c e f g h x (by omega)) (LI_mk b tp fp N A Q C W Z ask _ Y P _ b1 c e f g h (inv_r hI 1 1)) cA1 (Or.inl rfl) ⟨_, rfl⟩
theorem apN_agree {ps ps' way way' : Nat → Int64} {pc : Nat} (h : ∀ j, j < pc → ps j = ps' j) : ∀ m, (∀ i, i < m → way i = way' i) → ∀ j, j < pc + m → apN ps pc way m j = apN ps' pc way' m j
  | 0, _, j, hj => h j hj
  | m + 1, hw, j, hj => by
    show vp_updL (apN ps pc way m) (pc + m) (way m) j = vp_updL (apN ps' pc way' m) (pc + m) (way' m) j
    by_cases q : j = pc + m
    · subst q; rw [pk_uLs, pk_uLs]; exact hw m (by omega)
    · rw [pk_uLn q, pk_uLn q]; exact apN_agree h m (fun i hi => hw i (by omega)) j (by omega)
theorem fiY_eq (Y : MN) (C : Nat → Int64) : ∀ i, fiY Y C i = yP Y (Y.2.2.2.2.1 + i) (apN Y.2.2.2.2.2.2.1 Y.2.2.2.2.1 C i)
  | 0 => rfl
  | i + 1 => by
    show yP (fiY Y C i) ((fiY Y C i).2.2.2.2.1 + 1) (vp_updL (fiY Y C i).2.2.2.2.2.2.1 (fiY Y C i).2.2.2.2.1 (C i)) = _
    rw [fiY_eq Y C i]
    rfl
theorem chn_drop {P : List Int64} : ∀ (q : List Int64) (x : Int64) (i : Nat), chn P x q → i ≤ q.length → ∃ y, chn P y (q.drop i)
  | q, x, 0, h, _ => ⟨x, h⟩
  | [], x, i + 1, h, hi => by rw [List.length_nil] at hi; omega
  | v :: t, x, i + 1, ⟨_, _, h3⟩, hi => chn_drop t _ i h3 (by rw [List.length_cons] at hi; omega)
theorem fin_pts {n : Nat} {g : Int64} {sh k : Nat} {P : List Int64} (hP : ∀ v, v ∈ P → ptP n sh k v) {pc : Nat} {ps : Nat → Int64} {way : Nat → Int64} {q : List Int64} (hw : ∀ i, i < q.length → way i = q.getD i 0) (h : ptsOk n g sh k pc ps) (hq : chn P (lfN ps g pc) q) : ∀ m, m ≤ q.length → ptsOk n g sh k (pc + m) (apN ps pc way m) ∧ chn P (lfN (apN ps pc way m) g (pc + m)) (q.drop m)
  | 0, _ => ⟨h, hq⟩
  | m + 1, hm => by
    obtain ⟨i1, i2⟩ := fin_pts hP hw h hq m (by omega)
    have hd : q.drop m = way m :: q.drop (m + 1) := by
      rw [List.drop_eq_getElem_cons (by omega), hw m (by omega), List.getD_eq_getElem?_getD, List.getElem?_eq_getElem (by omega)]
      rfl
    rw [hd] at i2
    obtain ⟨j1, j2, j3⟩ := i2
    obtain ⟨d1, d2⟩ := lf_dj j2
    refine ⟨pts_push i1 (hP _ j1) d1 d2, ?_⟩
    have e : lfN (apN ps pc way (m + 1)) g (pc + (m + 1)) = lfN (apN ps pc way m) g (pc + m) &&& (way m ^^^ (-1)) := by
      show lfN (vp_updL (apN ps pc way m) (pc + m) (way m)) g (pc + m) &&& (vp_updL (apN ps pc way m) (pc + m) (way m) (pc + m) ^^^ (-1)) = _
      rw [pk_uLs, lfN_agree (ps' := apN ps pc way m) (pc + m) (fun j hj => pk_uLn (by omega))]
    rw [e]
    exact j3
theorem st_finish (adK : Nat → Nat) (b : Nat → Int32) (tp : Nat) (fp : Int32) (N : NS) (A : AS) (Q : QS) (C : CS) (W : WS) (Z : SS) (ask : Nat → Int32) (rf : Nat → Nat) (Y : MN) (P : Nat → MN) (a : G0) (b1 : G1) (c : G3) (e : G4) (f : G5) (g : G6) (h : G7) (hI : INV b tp fp N A Q C W rf Y P a b1 c e) : STQ mX6_finish mX7_finish adK 100 100 [] (hP b tp fp N A Q C W Z ask rf) (hM Y P a b1 c e f g h) (cC C.2.1 + potC e.1) (cS C.2.1 + potS e.1) okI := by
  have hI0 := hI
  obtain ⟨⟨hq, hrw⟩, ⟨hby, htp, ht3, hat, hafp⟩, ⟨hE, hac, harf⟩, ⟨hpl, hc5⟩, ⟨hC, hWk, hly⟩⟩ := hI0
  obtain ⟨hS, hn, hn2, hpc, h55, hsb⟩ := eqS_b hE
  obtain ⟨⟨y1, y2, y3, y4, y5, y6⟩, y7, ⟨bN, ybs, yB⟩, yr⟩ := id hE
  obtain ⟨lP, lO, lT, lR, l5, lb1, lb2⟩ := ly_ok (Y := Y) (c := c) (e := e) (by rw [y3, y4]; exact hS) (by omega) (by omega) hc5 hly
  obtain ⟨hlen, cb1, cb2⟩ := cat_b hS hn hC
  have hk := hac.1
  rw [y1, y3, y4] at lT
  obtain ⟨g1, g2⟩ := ly_G hS hn lT
  have hG3 : ok55 (lfN Y.2.2.2.2.2.2.1 Y.2.1 Y.2.2.2.2.1) := by rw [eqS_lf hE]; exact h55
  have hM3 : pcN (lfN Y.2.2.2.2.2.2.1 Y.2.1 Y.2.2.2.2.1) < 56 := by have := pc_55 hG3; omega
  have hg := gs_sa hS hn lT true h55 g
  have ho := sa_once (P := (apS N.1 N.2.2.1 N.2.2.2.1)) 56 (lfN N.2.2.2.2.2.2.1 N.2.1 N.2.2.2.2.1) [] (0, 0, false, []) rfl
  have hfi := (sa_first (P := (apS N.1 N.2.2.1 N.2.2.2.1)) (o := true) 56 (lfN N.2.2.2.2.2.2.1 N.2.1 N.2.2.2.2.1) [] (0, 0, false, [])).1 rfl
  have hle := (sa_le (P := (apS N.1 N.2.2.1 N.2.2.2.1)) (o := true) (lfN N.2.2.2.2.2.2.1 N.2.1 N.2.2.2.2.1)).1
  have hle2 := (sa_le (P := (apS N.1 N.2.2.1 N.2.2.2.1)) (o := false) (lfN N.2.2.2.2.2.2.1 N.2.1 N.2.2.2.2.1)).1
  generalize hT : saF (apS N.1 N.2.2.1 N.2.2.2.1) true 56 (lfN N.2.2.2.2.2.2.1 N.2.1 N.2.2.2.2.1) [] (0, 0, false, []) = sT at *
  generalize hF : saF (apS N.1 N.2.2.1 N.2.2.2.1) false 56 (lfN N.2.2.2.2.2.2.1 N.2.1 N.2.2.2.2.1) [] (0, 0, false, []) = sF at *
  have hPt : ∀ v, v ∈ (apS N.1 N.2.2.1 N.2.2.2.1) → ptP N.1 N.2.2.1 N.2.2.2.1 v := fun v hv => (apS_mem hS hn v).mp hv
  -- what the class's walk comes to
  have cls : ∀ s : S3, csOk (ctF C N s) → wkR (goW (ctF C N s) W true (lfN N.2.2.2.2.2.2.1 N.2.1 N.2.2.2.2.1)) ∧ ((goW (ctF C N s) W true (lfN N.2.2.2.2.2.2.1 N.2.1 N.2.2.2.2.1)).1 = 0 ↔ sT.1 = 0) ∧ (goW (ctF C N s) W true (lfN N.2.2.2.2.2.2.1 N.2.1 N.2.2.2.2.1)).1 ≤ 20000 ∧ (¬ sT.1 = 0 → (goW (ctF C N s) W true (lfN N.2.2.2.2.2.2.1 N.2.1 N.2.2.2.2.1)).2.2.2.1 = sT.2.2.2.length ∧ ∀ i, i < sT.2.2.2.length → (goW (ctF C N s) W true (lfN N.2.2.2.2.2.2.1 N.2.1 N.2.2.2.2.1)).2.2.2.2.1 i = sT.2.2.2.getD i 0) := fun s hs => by
    obtain ⟨w1, w2⟩ := gow_ok true hS hn (by omega) hs hWk hsb h55
    rw [hT, hF] at w2
    refine ⟨w1, ?_⟩
    rcases w2 with w2 | w2
    · have v1 : (goW (ctF C N s) W true (lfN N.2.2.2.2.2.2.1 N.2.1 N.2.2.2.2.1)).1 = sT.1 := w2.1
      refine ⟨by rw [v1], by omega, fun z => w2.2.2.2.1 z⟩
    · have v1 : (goW (ctF C N s) W true (lfN N.2.2.2.2.2.2.1 N.2.1 N.2.2.2.2.1)).1 = sF.1 := w2.1
      rcases ho with ⟨o1, o2⟩ | ⟨o1, o2, o3⟩
      · rw [← o2] at v1 w2
        exact ⟨by rw [v1], by omega, fun z => absurd o1 z⟩
      · refine ⟨⟨fun z => absurd (v1.symm.trans z) o2, fun z => absurd z o1⟩, by omega, fun _ => ?_⟩
        rw [o3]
        exact w2.2.2.2.1 o2
  have pts : ¬ sT.1 = 0 → ∀ way : Nat → Int64, (∀ i, i < sT.2.2.2.length → way i = sT.2.2.2.getD i 0) → ptsOk N.1 N.2.1 N.2.2.1 N.2.2.2.1 (N.2.2.2.2.1 + sT.2.2.2.length) (apN N.2.2.2.2.2.2.1 N.2.2.2.2.1 way sT.2.2.2.length) := fun z way hw => by
    obtain ⟨q, e1, e2⟩ := hfi z
    rw [List.nil_append] at e1
    rw [e1] at hw ⊢
    exact (fin_pts hPt hw yr.2.2.2.2 e2 q.length (Nat.le_refl _)).1
  have p55 : ¬ sT.1 = 0 → N.2.2.2.2.1 + sT.2.2.2.length ≤ 55 := fun z => pts_55 hS hn yr.2.2.2.1 (pts z (fun i => sT.2.2.2.getD i 0) (fun i _ => rfl))
  have hx := p_finish adK 90 b tp fp N A Q C W Z ask rf hq ⟨by rw [hk]; exact hac.2.1, hac.2.2.1⟩ hS hn (by omega) hpc hC hlen hWk.1 (fun s hs => by
    obtain ⟨v1, v2, v3, v4⟩ := cls s hs
    refine ⟨v3, fun z => ?_⟩
    have z' : ¬ sT.1 = 0 := fun w => z (v2.mpr w)
    rw [(v4 z').1]
    exact p55 z')
  by_cases q0 : sT.1 = 0
  · have hy := m_finishNo adK 41 Y P a b1 c e f g h lP lO ok55 pcN g1 g2 hG3 hM3 (by omega) (by rw [eqS_lf hE, hg.1]; exact q0)
    refine ⟨_, _, _, _, _, _, hx, hy, by omega, by omega, ⟨_, _, rfl, rfl⟩, fun r h1 e1 r' h2 e2 => ?_⟩
    obtain ⟨s, hs, e3, e4⟩ := e1
    try dsimp only at e3 e4
    obtain ⟨v1, v2, v3, v4⟩ := cls s hs
    have v0 := v2.mpr q0
    refine ⟨0, cC (rC C N) + potC (lyG Y c e).1, cS (rC C N) + potS (lyG Y c e).1, ?_, by omega, by omega, .int (-1), ?_, e2.1, _, rfl⟩
    · rw [e4, if_pos v0, e2.2]
      exact LI_mk b tp fp N A Q (ctF C N s) _ Z ask rf Y P _ b1 _ _ f _ h (inv_c hI hs v1 l5 lR)
    · rw [e3, if_pos v0]
  · have p5 := p55 q0
    obtain ⟨a1, a2⟩ := hg.2.2.2.1 q0
    have hy := m_finish adK 41 Y P a b1 c e f g h lP lO ok55 pcN g1 g2 hG3 hM3 (by omega) (by rw [eqS_lf hE, hg.1]; exact q0) hac.2.1 (by rw [eqS_lf hE, a1]; omega) (by rw [eqS_lf hE, a1, y5]; omega)
    rw [eqS_lf hE, a1, fiY_eq] at hy
    refine ⟨_, _, _, _, _, _, hx, hy, by omega, by omega, ⟨_, _, rfl, rfl⟩, fun r h1 e1 r' h2 e2 => ?_⟩
    obtain ⟨s, hs, e3, e4⟩ := e1
    try dsimp only at e3 e4
    obtain ⟨v1, v2, v3, v4⟩ := cls s hs
    have v0 : ¬ (goW (ctF C N s) W true (lfN N.2.2.2.2.2.2.1 N.2.1 N.2.2.2.2.1)).1 = 0 := fun w => q0 (v2.mp w)
    obtain ⟨k1, k2⟩ := v4 q0
    refine ⟨0, cC (rC C N) + potC (lyG Y c e).1, cS (rC C N) + potS (lyG Y c e).1, ?_, by omega, by omega, .int (nI sT.2.2.2.length), ?_, e2.1, _, rfl⟩
    · rw [e4, if_neg v0, e2.2]
      refine LI_mk b tp fp _ _ Q (ctF C N s) _ Z ask rf _ _ _ b1 _ _ f _ h ?_
      refine ⟨⟨hq, hrw⟩, ⟨hby, htp, ht3, hat, hafp⟩, ⟨⟨⟨y1, y2, y3, y4, ?_, y6⟩, fun j hj => ?_, ⟨bN, ybs, yB⟩, yr.1, yr.2.1, yr.2.2.1, yr.2.2.2.1, ?_⟩, acR_keep hac (fun f => eqS_B hE f), harf⟩, ⟨hpl, l5⟩, ⟨hs, v1, lR⟩⟩
      · show Y.2.2.2.2.1 + sT.2.2.2.length = N.2.2.2.2.1 + (goW (ctF C N s) W true (lfN N.2.2.2.2.2.2.1 N.2.1 N.2.2.2.2.1)).2.2.2.1
        rw [k1, y5]
      · have hj : j < N.2.2.2.2.1 + (goW (ctF C N s) W true (lfN N.2.2.2.2.2.2.1 N.2.1 N.2.2.2.2.1)).2.2.2.1 := hj
        rw [k1] at hj
        show apN N.2.2.2.2.2.2.1 N.2.2.2.2.1 (goW (ctF C N s) W true (lfN N.2.2.2.2.2.2.1 N.2.1 N.2.2.2.2.1)).2.2.2.2.1 (goW (ctF C N s) W true (lfN N.2.2.2.2.2.2.1 N.2.1 N.2.2.2.2.1)).2.2.2.1 j = apN Y.2.2.2.2.2.2.1 Y.2.2.2.2.1 (gsF (lyG Y c e) true 56 (lfN N.2.2.2.2.2.2.1 N.2.1 N.2.2.2.2.1) 0 (g.1, g.2.1, 0, 0, 0, false)).2.1 sT.2.2.2.length j
        rw [k1, y5]
        exact apN_agree y7 _ (fun i hi => by rw [k2 i hi, a2 i hi]) j hj
      · show ptsOk N.1 N.2.1 N.2.2.1 N.2.2.2.1 (N.2.2.2.2.1 + (goW (ctF C N s) W true (lfN N.2.2.2.2.2.2.1 N.2.1 N.2.2.2.2.1)).2.2.2.1) (apN N.2.2.2.2.2.2.1 N.2.2.2.2.1 (goW (ctF C N s) W true (lfN N.2.2.2.2.2.2.1 N.2.1 N.2.2.2.2.1)).2.2.2.2.1 (goW (ctF C N s) W true (lfN N.2.2.2.2.2.2.1 N.2.1 N.2.2.2.2.1)).2.2.2.1)
        rw [k1]
        exact pts q0 _ k2
    · rw [e3, if_neg v0, k1]
