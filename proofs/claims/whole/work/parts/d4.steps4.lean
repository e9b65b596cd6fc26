/-! ===== exchanges ===== -/
theorem ll_0 : ¬ llN 0 + 1 < 56 := by decide +kernel
theorem or_sb {x y g : Int64} (hx : sbL x g) (hy : sbL y g) : sbL (x ||| y) g := fun k hk => by
  rw [btL_or, Bool.or_eq_true] at hk
  rcases hk with h | h
  · exact hx k h
  · exact hy k h
theorem mi_sb (x y : Int64) : sbL (x &&& (y ^^^ (-1))) x := fun k hk => by rw [btL_mi, and9] at hk; exact hk.1
/-- the class's couples -/
theorem cp_ex {C : CS} {N : NS} {s : S3} {x y : Int64} (hS : shOk N.2.2.1 N.2.2.2.1) (hn : N.1 ≤ 11) (hn1 : 1 ≤ N.1) (hs : csOk (ctF C N s)) (hg : ok55 N.2.1) (hx : sbL x N.2.1) (hy : sbL y N.2.1) :
    (sg s.1 (s.2.1 (llN (x ||| y))) (s.2.1 (llN (x ||| y) + 1) - s.2.1 (llN (x ||| y)))).filter (fun v => decide (v &&& ((x ||| y) ^^^ (-1)) = 0 ∧ ¬ v = x ∧ ¬ v = y ∧ hasC s.1 s.2.1 ((x ||| y) &&& (v ^^^ (-1))) = true)) = exL (apS N.1 N.2.2.1 N.2.2.2.1) x y := by
  obtain ⟨f1, f2, f3, f4⟩ := cat_f hS hn hn1 hs
  have hxy := or_sb hx hy
  have hh : ∀ w, sbL w N.2.1 → hasC s.1 s.2.1 w = decide (w ∈ (apS N.1 N.2.2.1 N.2.2.2.1)) := fun w hw => by
    unfold hasC
    by_cases w0 : w = 0
    · subst w0
      rw [if_neg ll_0]
      exact (decide_eq_false (fun z => ((apS_mem hS hn 0).mp z).ne hS hn rfl)).symm
    · have := (hg.sb hw).ll w0
      rw [if_pos (by omega), ha_mem, (f4 (llN w)).2.2]
      refine decide_eq_decide.mpr ?_
      rw [List.mem_filter, List.mem_filter]
      exact ⟨fun z => z.1.1, fun z => ⟨⟨z, inG_iff.mpr hw⟩, decide_eq_true rfl⟩⟩
  rw [(f4 (llN (x ||| y))).2.2]
  unfold exL
  rw [List.filter_filter, List.filter_filter, List.filter_filter]
  refine List.filter_congr (fun v _ => ?_)
  unfold exP
  rw [hh _ ((mi_sb _ _).trans hxy)]
  cases ev : inG (x ||| y) v with
  | false =>
    have : ¬ v &&& ((x ||| y) ^^^ (-1)) = 0 := fun z => by have := (inG_iff.mpr (sb_iff.mp z) : inG (x ||| y) v = true); rw [ev] at this; cases this
    rw [decide_eq_false (fun z => this z.1)]
    rfl
  | true =>
    have e1 : v &&& ((x ||| y) ^^^ (-1)) = 0 := sb_iff.mpr (inG_iff.mp ev)
    have e2 : inG N.2.1 v = true := inG_iff.mpr ((inG_iff.mp ev).trans hxy)
    rw [e2]
    by_cases q1 : v = x
    · rw [decide_eq_false (fun z => z.2.1 q1), decide_eq_true q1]
      cases decide (llN v = llN (x ||| y)) <;> rfl
    · by_cases q2 : v = y
      · rw [decide_eq_false (fun z => z.2.2.1 q2), decide_eq_true q2]
        cases decide (llN v = llN (x ||| y)) <;> cases decide (v = x) <;> rfl
      · rw [decide_eq_false q1, decide_eq_false q2]
        by_cases q3 : (x ||| y) &&& (v ^^^ (-1)) ∈ (apS N.1 N.2.2.1 N.2.2.2.1)
        · rw [decide_eq_true ⟨e1, q1, q2, decide_eq_true q3⟩, decide_eq_true q3]
          cases decide (llN v = llN (x ||| y)) <;> rfl
        · rw [decide_eq_false (fun z => q3 (of_decide_eq_true z.2.2.2)), decide_eq_false q3]
          cases decide (llN v = llN (x ||| y)) <;> rfl
/-- the reference's couples -/
theorem ex_ex {e : G4} {n sh k : Nat} {x y : Int64} (hS : shOk sh k) (hn : n ≤ 11) (hT : lyT e n sh k) (hv : ok55 (x ||| y)) (h0 : ¬ x ||| y = 0) :
    (sg e.2.1 (e.2.2.2.2.1 (llN (x ||| y))) (e.2.2.2.2.1 (llN (x ||| y) + 1) - e.2.2.2.2.1 (llN (x ||| y)))).filter (exB e x y (x ||| y)) = exL (apS n sh k) x y := by
  have hl := hv.ll h0
  rw [(lyT_s hS hn hT (by omega)).2.2]
  unfold exL
  refine List.filter_congr (fun v _ => ?_)
  unfold exB exP
  have hi : ipB e ((x ||| y) &&& (v ^^^ (-1))) = decide ((x ||| y) &&& (v ^^^ (-1)) ∈ apS n sh k) := by
    unfold ipB
    generalize hw : (x ||| y) &&& (v ^^^ (-1)) = w
    have h55 : ok55 w := by rw [← hw]; exact hv.sb (mi_sb _ _)
    by_cases w0 : w = 0
    · rw [lN0, if_pos w0, w0]
      exact (decide_eq_false (fun z => ((apS_mem hS hn 0).mp z).ne hS hn rfl)).symm
    · have := h55.ll w0
      rw [lN0, if_neg w0, ip_mem, (lyT_s hS hn hT (by omega)).2.2]
      refine decide_eq_decide.mpr ?_
      rw [List.mem_filter]
      exact ⟨fun z => z.1, fun z => ⟨z, decide_eq_true rfl⟩⟩
  rw [hi]
  rfl
theorem ex_len {n sh k : Nat} (hS : shOk sh k) (hn : n ≤ 11) (x y : Int64) : (exL (apS n sh k) x y).length ≤ 27720 := by
  unfold exL
  refine Nat.le_trans (List.length_filter_le _ _) (Nat.le_trans (List.length_filter_le _ _) ?_)
  rw [apS_len]; exact ap_27 hS hn
theorem cp_cnt {C : CS} {N : NS} {s : S3} {x y : Int64} (hS : shOk N.2.2.1 N.2.2.2.1) (hn : N.1 ≤ 11) (hn1 : 1 ≤ N.1) (hs : csOk (ctF C N s)) (hg : ok55 N.2.1) (hx : sbL x N.2.1) (hy : sbL y N.2.1) : cpN s x y = (exL (apS N.1 N.2.2.1 N.2.2.2.1) x y).length ∧ ∀ q, cpG s x y q = (ltA q 0 (exL (apS N.1 N.2.2.1 N.2.2.2.1) x y)).getD 0 := by
  have h := cp_ex hS hn hn1 hs hg hx hy
  have f4 := (cat_f hS hn hn1 hs).2.2.2 (llN (x ||| y))
  have hl : lnC N ≤ 27720 := Nat.le_trans (pa_U N.2.1 hS hn) (apU_27 hS hn)
  refine ⟨?_, fun q => ?_⟩
  · unfold cpN
    rw [cpC_len (p := fun v => decide (v &&& ((x ||| y) ^^^ (-1)) = 0 ∧ ¬ v = x ∧ ¬ v = y ∧ hasC s.1 s.2.1 ((x ||| y) &&& (v ^^^ (-1))) = true)) (fun i => rfl), h, Nat.zero_add]
  · unfold cpG
    rw [(cpF_lt (p := fun v => decide (v &&& ((x ||| y) ^^^ (-1)) = 0 ∧ ¬ v = x ∧ ¬ v = y ∧ hasC s.1 s.2.1 ((x ||| y) &&& (v ^^^ (-1))) = true)) (fun i => rfl) _ _ 0 0 (by omega)).1, h]
theorem exK_cnt {e : G4} {n sh k : Nat} {x y : Int64} (hS : shOk sh k) (hn : n ≤ 11) (hT : lyT e n sh k) (hv : ok55 (x ||| y)) (h0 : ¬ x ||| y = 0) (w : Int32) (f : G5) :
    (exK e x y (x ||| y) w (e.2.2.2.2.1 (llN (x ||| y) + 1) - e.2.2.2.2.1 (llN (x ||| y))) (e.2.2.2.2.1 (llN (x ||| y))) 0 f).1 = (exL (apS n sh k) x y).length ∧ (exK e x y (x ||| y) w (e.2.2.2.2.1 (llN (x ||| y) + 1) - e.2.2.2.2.1 (llN (x ||| y))) (e.2.2.2.2.1 (llN (x ||| y))) 0 f).2 = (match ltA w 0 (exL (apS n sh k) x y) with | some u => (u, (x ||| y) &&& (u ^^^ (-1))) | none => f) := by
  have h := ex_ex hS hn hT hv h0
  have hl := hv.ll h0
  have h2 := (lyT_s hS hn hT (show llN (x ||| y) < 56 by omega)).2.1
  have h3 := ap_27 hS hn
  obtain ⟨k1, k2, -⟩ := exK_lt (e := e) (x := x) (y := y) (v := x ||| y) (w := w) (p := exB e x y (x ||| y)) (fun i => rfl) (e.2.2.2.2.1 (llN (x ||| y) + 1) - e.2.2.2.2.1 (llN (x ||| y))) (e.2.2.2.2.1 (llN (x ||| y))) 0 f (by omega)
  rw [h] at k1 k2
  exact ⟨by rw [k1, Nat.zero_add], k2⟩
/-- two parts become two others with the same lines -/
theorem pts_xc {n : Nat} {g : Int64} {sh k pc : Nat} {ps : Nat → Int64} (h : ptsOk n g sh k pc ps) {i j : Nat} (hi : i < pc) (hj : j < pc) (hij : i ≠ j) {u w : Int64} (hu : ptP n sh k u) (hw : ptP n sh k w) (su : sbL u (ps i ||| ps j)) (sw : sbL w (ps i ||| ps j)) (hd : u &&& w = 0) : ptsOk n g sh k pc (vp_updL (vp_updL ps i u) j w) := by
  have hall : ∀ a b, a < pc → b < pc → a ≠ b → ps a &&& ps b = 0 := fun a b ha hb hab => by
    rcases Nat.lt_or_gt_of_ne hab with q | q
    · exact h.2 b hb a q
    · rw [Int64.and_comm]; exact h.2 a ha b q
  have hg : sbL (ps i ||| ps j) g := or_sb (h.1 i hi).2 (h.1 j hj).2
  have out : ∀ a, a < pc → a ≠ i → a ≠ j → ∀ v, sbL v (ps i ||| ps j) → ps a &&& v = 0 := fun a ha h1 h2 v hv => dj_iff.mpr (fun b hb => by
    cases e : btL v b with
    | false => rfl
    | true =>
      have := hv b e
      rw [btL_or, dj_iff.mp (hall a i ha hi h1) b hb, dj_iff.mp (hall a j ha hj h2) b hb] at this
      cases this)
  have val : ∀ a, a < pc → (a = i ∧ vp_updL (vp_updL ps i u) j w a = u) ∨ (a = j ∧ vp_updL (vp_updL ps i u) j w a = w) ∨ (a ≠ i ∧ a ≠ j ∧ vp_updL (vp_updL ps i u) j w a = ps a) := fun a ha => by
    by_cases q1 : a = j
    · subst q1; rw [pk_uLs]; exact Or.inr (Or.inl ⟨rfl, rfl⟩)
    · rw [pk_uLn q1]
      by_cases q2 : a = i
      · subst q2; rw [pk_uLs]; exact Or.inl ⟨rfl, rfl⟩
      · rw [pk_uLn q2]; exact Or.inr (Or.inr ⟨q2, q1, rfl⟩)
  refine ⟨fun a ha => ?_, fun a ha b hb => ?_⟩
  · rcases val a ha with ⟨-, e⟩ | ⟨-, e⟩ | ⟨-, -, e⟩ <;> rw [e]
    · exact ⟨hu, su.trans hg⟩
    · exact ⟨hw, sw.trans hg⟩
    · exact h.1 a ha
  · have hwu : w &&& u = 0 := by rw [Int64.and_comm]; exact hd
    rcases val a ha with ⟨a1, e⟩ | ⟨a1, e⟩ | ⟨a1, a2, e⟩ <;> rcases val b (by omega) with ⟨b1, e'⟩ | ⟨b1, e'⟩ | ⟨b1, b2, e'⟩ <;> rw [e, e']
    · omega
    · exact hwu
    · exact out b (by omega) b1 b2 u su
    · exact hd
    · omega
    · exact out b (by omega) b1 b2 w sw
    · rw [Int64.and_comm]; exact out a ha a1 a2 u su
    · rw [Int64.and_comm]; exact out a ha a1 a2 w sw
    · exact h.2 a ha b hb
theorem or_mi {u v : Int64} (h : sbL u v) : u ||| (v &&& (u ^^^ (-1))) = v ∧ u &&& (v &&& (u ^^^ (-1))) = 0 := by
  constructor
  · refine btL_ext fun k hk => ?_
    rw [btL_or, btL_mi]
    cases e : btL u k with
    | false => cases btL v k <;> rfl
    | true => rw [h k e]; rfl
  · refine dj_iff.mpr (fun k hk => ?_)
    rw [btL_mi, hk]
    cases btL v k <;> rfl
theorem st_exchanges (adK : Nat → Nat) (x y : Int32) (b : Nat → Int32) (tp : Nat) (fp : Int32) (N : NS) (A : AS) (Q : QS) (C : CS) (W : WS) (Z : SS) (ask : Nat → Int32) (rf : Nat → Nat) (Y : MN) (P : Nat → MN) (a : G0) (b1 : G1) (c : G3) (e : G4) (f : G5) (g : G6) (h : G7) (hI : INV b tp fp N A Q C W rf Y P a b1 c e) : STP mX6_exchanges mX7_exchanges adK 100 100 [.int x, .int y] (hP b tp fp N A Q C W Z ask rf) (hM Y P a b1 c e f g h) (cC C.2.1 + potC e.1) (cS C.2.1 + potS e.1) (cd2 "java/util/NoSuchElementException" "java/lang/IllegalArgumentException") okI := by
  have hI0 := hI
  obtain ⟨⟨hq, hrw⟩, ⟨hby, htp, ht3, hat, hafp⟩, ⟨hE, hac, harf⟩, ⟨hpl, hc5⟩, ⟨hC, hWk, hly⟩⟩ := hI0
  obtain ⟨hS, hn, hn2, hpc, h55, hsb⟩ := eqS_b hE
  obtain ⟨⟨y1, y2, y3, y4, y5, y6⟩, y7, ⟨bN, ybs, yB⟩, yr⟩ := id hE
  obtain ⟨lP, lO, lT, lR, l5, lb1, lb2⟩ := ly_ok (Y := Y) (c := c) (e := e) (by rw [y3, y4]; exact hS) (by omega) (by omega) hc5 hly
  obtain ⟨hlen, cb1, cb2⟩ := cat_b hS hn hC
  rw [y1, y3, y4] at lT
  rcases bool_c (hasN N.2.2.2.2.1 x) with qx | qx
  · rcases bool_c (hasN N.2.2.2.2.1 y) with qy | qy
    · by_cases qe : y = x
      · subst qe
        obtain ⟨i, hi, rfl⟩ := has_ex qx
        exact stp_no (p_exchangesXc adK 92 b tp fp N A Q C W Z ask rf hq (nI i) (nI i) hpc qx rfl) (m_exchangesXb adK 78 Y P a b1 c e f g h i (by omega) (by omega)) (LI_mk b tp fp N A Q C W Z ask _ Y P _ b1 c e f g h (inv_r hI 2 1)) cNA2 (Or.inr rfl) ⟨_, rfl⟩
      · obtain ⟨i, hi, rfl⟩ := has_ex qx
        obtain ⟨j, hj, rfl⟩ := has_ex qy
        have hij : i ≠ j := fun z => qe (by rw [z])
        obtain ⟨pi, si⟩ := yr.2.2.2.2.1 i hi
        obtain ⟨pj, sj⟩ := yr.2.2.2.2.1 j hj
        have hg55 := yr.2.2.2.1
        have h0 : ¬ (N.2.2.2.2.2.2.1 i) ||| (N.2.2.2.2.2.2.1 j) = 0 := or_ne (pj.ne hS hn)
        have hv := hg55.sb (or_sb si sj)
        have hll := hv.ll h0
        have hl2 : ∀ s : Int64, ¬ (Y.2.2.2.2.2.2.1 i ||| Y.2.2.2.2.2.2.1 j) &&& s = lN 0 → llN ((Y.2.2.2.2.2.2.1 i ||| Y.2.2.2.2.2.2.1 j) &&& s) + 1 < 57 := fun s hs => by
          rw [← y7 i hi, ← y7 j hj] at hs ⊢
          have := (hv.sb (fun k hk => by rw [btL_and, and9] at hk; exact hk.1) : ok55 (((N.2.2.2.2.2.2.1 i) ||| (N.2.2.2.2.2.2.1 j)) &&& s)).ll hs
          omega
        have hy := m_exchanges adK 78 Y P a b1 c e f g h lP lO i j (by rw [← y7 i hi, ← y7 j hj]; exact h0) (by rw [← y7 i hi, ← y7 j hj]; omega) hl2 (by omega) (by omega) (by omega) hij (-1) rfl
        rw [← y7 i hi, ← y7 j hj, (exK_cnt hS hn lT hv h0 (-1) f).1] at hy
        refine ⟨_, _, _, _, _, _, p_exchanges adK 90 b tp fp N A Q C W Z ask rf hq hS hn (by omega) hpc hC hlen i j hi hj hij (by omega), hy, by omega, by omega, ⟨_, _, rfl, rfl⟩, fun r h1 e1 r' h2 e2 => ?_⟩
        obtain ⟨s, hs, e3, e4⟩ := e1
        try dsimp only at e3 e4
        refine ⟨0, cC (rC C N) + potC (lyG Y c e).1, cS (rC C N) + potS (lyG Y c e).1, ?_, by omega, by omega, Or.inl ⟨_, e3, rfl, ?_, _, rfl⟩⟩
        · rw [e4, e2.2]
          exact LI_mk b tp fp N A Q (ctG C N s (cpG s (N.2.2.2.2.2.2.1 i) (N.2.2.2.2.2.2.1 j) (-1))) W Z ask rf Y P _ b1 _ _ _ g h (inv_c hI (csOk_G hs) hWk l5 lR)
        · rw [e2.1, (cp_cnt hS hn (by omega) hs hg55 si sj).1]
    · exact stp_no (p_exchangesXb adK 92 b tp fp N A Q C W Z ask rf hq x y hpc qx qy) (m_exchangesXa adK 78 Y P a b1 c e f g h x y (by omega) (Or.inr (by rw [y5]; exact qy))) (LI_mk b tp fp N A Q C W Z ask _ Y P _ b1 c e f g h (inv_r hI 1 0)) cNA1 (Or.inl rfl) ⟨_, rfl⟩
  · exact stp_no (p_exchangesXa adK 92 b tp fp N A Q C W Z ask rf hq x y hpc qx) (m_exchangesXa adK 78 Y P a b1 c e f g h x y (by omega) (Or.inl (by rw [y5]; exact qx))) (LI_mk b tp fp N A Q C W Z ask _ Y P _ b1 c e f g h (inv_r hI 1 0)) cNA1 (Or.inl rfl) ⟨_, rfl⟩
theorem st_exchange (adK : Nat → Nat) (x y z : Int32) (b : Nat → Int32) (tp : Nat) (fp : Int32) (N : NS) (A : AS) (Q : QS) (C : CS) (W : WS) (Z : SS) (ask : Nat → Int32) (rf : Nat → Nat) (Y : MN) (P : Nat → MN) (a : G0) (b1 : G1) (c : G3) (e : G4) (f : G5) (g : G6) (h : G7) (hI : INV b tp fp N A Q C W rf Y P a b1 c e) : STP mX6_exchange mX7_exchange adK 100 100 [.int x, .int y, .int z] (hP b tp fp N A Q C W Z ask rf) (hM Y P a b1 c e f g h) (cC C.2.1 + potC e.1) (cS C.2.1 + potS e.1) (cd2 "java/util/NoSuchElementException" "java/lang/IllegalArgumentException") okI := by
  have hI0 := hI
  obtain ⟨⟨hq, hrw⟩, ⟨hby, htp, ht3, hat, hafp⟩, ⟨hE, hac, harf⟩, ⟨hpl, hc5⟩, ⟨hC, hWk, hly⟩⟩ := hI0
  obtain ⟨hS, hn, hn2, hpc, h55, hsb⟩ := eqS_b hE
  obtain ⟨⟨y1, y2, y3, y4, y5, y6⟩, y7, ⟨bN, ybs, yB⟩, yr⟩ := id hE
  obtain ⟨lP, lO, lT, lR, l5, lb1, lb2⟩ := ly_ok (Y := Y) (c := c) (e := e) (by rw [y3, y4]; exact hS) (by omega) (by omega) hc5 hly
  obtain ⟨hlen, cb1, cb2⟩ := cat_b hS hn hC
  have hk := hac.1
  rw [y1, y3, y4] at lT
  rcases bool_c (hasN N.2.2.2.2.1 x) with qx | qx
  · rcases bool_c (hasN N.2.2.2.2.1 y) with qy | qy
    · by_cases qe : y = x
      · subst qe
        obtain ⟨i, hi, rfl⟩ := has_ex qx
        exact stp_no (p_exchangeXc adK 92 b tp fp N A Q C W Z ask rf hq (nI i) (nI i) z hpc qx rfl) (m_exchangeXb adK 78 Y P a b1 c e f g h i z (by omega) (by omega)) (LI_mk b tp fp N A Q C W Z ask _ Y P _ b1 c e f g h (inv_r hI 2 1)) cNA2 (Or.inr rfl) ⟨_, rfl⟩
      · obtain ⟨i, hi, rfl⟩ := has_ex qx
        obtain ⟨j, hj, rfl⟩ := has_ex qy
        have hij : i ≠ j := fun z => qe (by rw [z])
        obtain ⟨pi, si⟩ := yr.2.2.2.2.1 i hi
        obtain ⟨pj, sj⟩ := yr.2.2.2.2.1 j hj
        have hdij : (N.2.2.2.2.2.2.1 i) &&& (N.2.2.2.2.2.2.1 j) = 0 := by
          rcases Nat.lt_or_gt_of_ne hij with q | q
          · exact yr.2.2.2.2.2 j hj i q
          · rw [Int64.and_comm]; exact yr.2.2.2.2.2 i hi j q
        have hg55 := yr.2.2.2.1
        have h0 : ¬ (N.2.2.2.2.2.2.1 i) ||| (N.2.2.2.2.2.2.1 j) = 0 := or_ne (pj.ne hS hn)
        have hv := hg55.sb (or_sb si sj)
        have hll := hv.ll h0
        have hl2' : ∀ s : Int64, ¬ ((N.2.2.2.2.2.2.1 i) ||| (N.2.2.2.2.2.2.1 j)) &&& s = lN 0 → llN (((N.2.2.2.2.2.2.1 i) ||| (N.2.2.2.2.2.2.1 j)) &&& s) + 1 < 57 := fun s hs => by
          have := (hv.sb (fun k hk => by rw [btL_and, and9] at hk; exact hk.1) : ok55 (((N.2.2.2.2.2.2.1 i) ||| (N.2.2.2.2.2.2.1 j)) &&& s)).ll hs
          omega
        have hl2 : ∀ s : Int64, ¬ (Y.2.2.2.2.2.2.1 i ||| Y.2.2.2.2.2.2.1 j) &&& s = lN 0 → llN ((Y.2.2.2.2.2.2.1 i ||| Y.2.2.2.2.2.2.1 j) &&& s) + 1 < 57 := by
          rw [← y7 i hi, ← y7 j hj]; exact hl2'
        obtain ⟨k1, k2⟩ := exK_cnt hS hn lT hv h0 z f
        have hx9 := p_exchange adK 90 b tp fp N A Q C W Z ask rf hq ⟨by rw [hk]; exact hac.2.1, hac.2.2.1⟩ hS hn (by omega) hpc hC hlen i j hi hj hij (by omega) z
        have hle := ex_len hS hn (N.2.2.2.2.2.2.1 i) (N.2.2.2.2.2.2.1 j)
        have hEX : exK (lyG Y c e) (Y.2.2.2.2.2.2.1 i) (Y.2.2.2.2.2.2.1 j) (Y.2.2.2.2.2.2.1 i ||| Y.2.2.2.2.2.2.1 j) z ((lyG Y c e).2.2.2.2.1 (llN (Y.2.2.2.2.2.2.1 i ||| Y.2.2.2.2.2.2.1 j) + 1) - (lyG Y c e).2.2.2.2.1 (llN (Y.2.2.2.2.2.2.1 i ||| Y.2.2.2.2.2.2.1 j))) ((lyG Y c e).2.2.2.2.1 (llN (Y.2.2.2.2.2.2.1 i ||| Y.2.2.2.2.2.2.1 j))) 0 f = exK (lyG Y c e) (N.2.2.2.2.2.2.1 i) (N.2.2.2.2.2.2.1 j) ((N.2.2.2.2.2.2.1 i) ||| (N.2.2.2.2.2.2.1 j)) z ((lyG Y c e).2.2.2.2.1 (llN ((N.2.2.2.2.2.2.1 i) ||| (N.2.2.2.2.2.2.1 j)) + 1) - (lyG Y c e).2.2.2.2.1 (llN ((N.2.2.2.2.2.2.1 i) ||| (N.2.2.2.2.2.2.1 j)))) ((lyG Y c e).2.2.2.2.1 (llN ((N.2.2.2.2.2.2.1 i) ||| (N.2.2.2.2.2.2.1 j)))) 0 f := by rw [← y7 i hi, ← y7 j hj]
        rcases bool_c (hasN (exL (apS N.1 N.2.2.1 N.2.2.2.1) (N.2.2.2.2.2.2.1 i) (N.2.2.2.2.2.2.1 j)).length z) with qz | qz
        · -- done
          obtain ⟨u, hu⟩ := (lt_has (by omega)).mpr qz
          rw [hu] at k2
          have k2 : (exK (lyG Y c e) (N.2.2.2.2.2.2.1 i) (N.2.2.2.2.2.2.1 j) ((N.2.2.2.2.2.2.1 i) ||| (N.2.2.2.2.2.2.1 j)) z ((lyG Y c e).2.2.2.2.1 (llN ((N.2.2.2.2.2.2.1 i) ||| (N.2.2.2.2.2.2.1 j)) + 1) - (lyG Y c e).2.2.2.2.1 (llN ((N.2.2.2.2.2.2.1 i) ||| (N.2.2.2.2.2.2.1 j)))) ((lyG Y c e).2.2.2.2.1 (llN ((N.2.2.2.2.2.2.1 i) ||| (N.2.2.2.2.2.2.1 j)))) 0 f).2 = (u, ((N.2.2.2.2.2.2.1 i) ||| (N.2.2.2.2.2.2.1 j)) &&& (u ^^^ (-1))) := k2
          obtain ⟨m1, m2, m3, m4, m5, m6⟩ := exL_mem (lt_mem hu)
          obtain ⟨o1, o2⟩ := or_mi m2
          have pu := (apS_mem hS hn u).mp m1
          have pw := (apS_mem hS hn _).mp m6
          have hcnt : (exL (apS N.1 N.2.2.1 N.2.2.2.1) u (((N.2.2.2.2.2.2.1 i) ||| (N.2.2.2.2.2.2.1 j)) &&& (u ^^^ (-1)))).length = (exL (apS N.1 N.2.2.1 N.2.2.2.1) (N.2.2.2.2.2.2.1 i) (N.2.2.2.2.2.2.1 j)).length := by
            have a1 := exL_len (apS_nd hS hn) ((apS_mem hS hn _).mpr pi) ((apS_mem hS hn _).mpr pj) hdij (pi.ne hS hn) (pj.ne hS hn)
            have a2 := exL_len (apS_nd hS hn) m1 m6 o2 (pu.ne hS hn) (pw.ne hS hn)
            rw [o1] at a2
            omega
          have hv' : ok55 (u ||| (((N.2.2.2.2.2.2.1 i) ||| (N.2.2.2.2.2.2.1 j)) &&& (u ^^^ (-1)))) := by rw [o1]; exact hv
          have h0' : ¬ u ||| (((N.2.2.2.2.2.2.1 i) ||| (N.2.2.2.2.2.2.1 j)) &&& (u ^^^ (-1))) = 0 := by rw [o1]; exact h0
          have k3 := (exK_cnt hS hn lT hv' h0' (-1) (u, ((N.2.2.2.2.2.2.1 i) ||| (N.2.2.2.2.2.2.1 j)) &&& (u ^^^ (-1)))).1
          have hy := m_exchange adK 78 Y P a b1 c e f g h lP lO i j (by rw [← y7 i hi, ← y7 j hj]; exact h0) (by rw [← y7 i hi, ← y7 j hj]; omega) hl2 (by omega) (by omega) (by omega) hij z (by rw [hEX, k1]; omega) (by rw [hEX, k1]; exact qz) hac.2.1 (by rw [hEX, k2]; exact h0') (by rw [hEX, k2]; show llN (u ||| (((N.2.2.2.2.2.2.1 i) ||| (N.2.2.2.2.2.2.1 j)) &&& (u ^^^ (-1)))) + 1 < 57; rw [o1]; omega) (by rw [hEX, k2]; show ∀ s : Int64, ¬ (u ||| (((N.2.2.2.2.2.2.1 i) ||| (N.2.2.2.2.2.2.1 j)) &&& (u ^^^ (-1)))) &&& s = lN 0 → llN ((u ||| (((N.2.2.2.2.2.2.1 i) ||| (N.2.2.2.2.2.2.1 j)) &&& (u ^^^ (-1)))) &&& s) + 1 < 57; rw [o1]; exact hl2')
          rw [hEX, k2] at hy
          dsimp only at hy
          rw [k3, hcnt, y5] at hy
          refine ⟨_, _, _, _, _, _, hx9, hy, by omega, by omega, ⟨_, _, rfl, rfl⟩, fun r h1 e1 r' h2 e2 => ?_⟩
          obtain ⟨s, hs, e3, e4⟩ := e1
          try dsimp only at e3 e4
          obtain ⟨c1, c2⟩ := cp_cnt hS hn (by omega) hs hg55 si sj
          have qz' : hasN (cpN s (N.2.2.2.2.2.2.1 i) (N.2.2.2.2.2.2.1 j)) z = true := by rw [c1]; exact qz
          have c3 : cpG s (N.2.2.2.2.2.2.1 i) (N.2.2.2.2.2.2.1 j) z = u := by rw [c2, hu]; rfl
          refine ⟨0, cC (rC C N) + potC (lyG Y c e).1, cS (rC C N) + potS (lyG Y c e).1, ?_, by omega, by omega, Or.inl ⟨_, by rw [e3]; exact if_pos qz', rfl, by rw [e2.1, c1], _, rfl⟩⟩
          rw [e4, if_pos qz', e2.2, c3]
          refine LI_mk b tp fp _ _ Q (ctG C N s u) W Z ask rf _ _ _ b1 _ _ _ g h ?_
          refine ⟨⟨hq, hrw⟩, ⟨hby, htp, ht3, hat, hafp⟩, ⟨⟨⟨y1, y2, y3, y4, rfl, y6⟩, fun t ht => ?_, ⟨bN, ybs, yB⟩, yr.1, yr.2.1, yr.2.2.1, yr.2.2.2.1, pts_xc yr.2.2.2.2 hi hj hij pu pw m2 (mi_sb _ _) o2⟩, acR_keep hac (fun f => eqS_B hE f), harf⟩, ⟨hpl, l5⟩, ⟨csOk_G hs, hWk, lR⟩⟩
          have ht : t < N.2.2.2.2.1 := ht
          show vp_updL (vp_updL N.2.2.2.2.2.2.1 i u) j (((N.2.2.2.2.2.2.1 i) ||| (N.2.2.2.2.2.2.1 j)) &&& (u ^^^ (-1))) t = vp_updL (vp_updL Y.2.2.2.2.2.2.1 i u) j (((N.2.2.2.2.2.2.1 i) ||| (N.2.2.2.2.2.2.1 j)) &&& (u ^^^ (-1))) t
          by_cases q1 : t = j
          · subst q1; rw [pk_uLs, pk_uLs]
          · rw [pk_uLn q1, pk_uLn q1]
            by_cases q2 : t = i
            · subst q2; rw [pk_uLs, pk_uLs]
            · rw [pk_uLn q2, pk_uLn q2]; exact y7 t ht
        · have hy := m_exchangeXc adK 78 Y P a b1 c e f g h lP lO i j (by rw [← y7 i hi, ← y7 j hj]; exact h0) (by rw [← y7 i hi, ← y7 j hj]; omega) hl2 (by omega) (by omega) (by omega) hij z (by rw [hEX, k1]; omega) (by rw [hEX, k1]; exact qz)
          refine ⟨_, _, _, _, _, _, hx9, hy, by omega, by omega, ⟨_, _, rfl, rfl⟩, fun r h1 e1 r' h2 e2 => ?_⟩
          obtain ⟨s, hs, e3, e4⟩ := e1
          try dsimp only at e3 e4
          obtain ⟨c1, c2⟩ := cp_cnt hS hn (by omega) hs hg55 si sj
          have qz' : ¬ hasN (cpN s (N.2.2.2.2.2.2.1 i) (N.2.2.2.2.2.2.1 j)) z = true := by rw [c1, qz]; exact Bool.false_ne_true
          refine ⟨1, cC (rC C N) + potC (lyG Y c e).1, cS (rC C N) + potS (lyG Y c e).1, ?_, by omega, by omega, Or.inr ⟨"java/util/NoSuchElementException", _, by rw [e3]; exact if_neg qz', e2.1, cNA1, by omega, by omega, _, rfl⟩⟩
          rw [e4, if_neg qz', e2.2]
          refine LI_mk b tp fp N A Q (ctG C N s (cpG s (N.2.2.2.2.2.2.1 i) (N.2.2.2.2.2.2.1 j) (-1))) W Z ask _ Y P _ b1 _ _ _ g h ?_
          obtain ⟨r1, r2, r3, r4, r5⟩ := inv_r hI 1 0
          exact ⟨r1, r2, r3, ⟨r4.1, l5⟩, ⟨csOk_G hs, hWk, lR⟩⟩
    · exact stp_no (p_exchangeXb adK 92 b tp fp N A Q C W Z ask rf hq x y z hpc qx qy) (m_exchangeXa adK 78 Y P a b1 c e f g h x y z (by omega) (Or.inr (by rw [y5]; exact qy))) (LI_mk b tp fp N A Q C W Z ask _ Y P _ b1 c e f g h (inv_r hI 1 0)) cNA1 (Or.inl rfl) ⟨_, rfl⟩
  · exact stp_no (p_exchangeXa adK 92 b tp fp N A Q C W Z ask rf hq x y z hpc qx) (m_exchangeXa adK 78 Y P a b1 c e f g h x y z (by omega) (Or.inl (by rw [y5]; exact qx))) (LI_mk b tp fp N A Q C W Z ask _ Y P _ b1 c e f g h (inv_r hI 1 0)) cNA1 (Or.inl rfl) ⟨_, rfl⟩
