/-! ===== the calls, one by one ===== -/
theorem has_ex {n : Nat} {x : Int32} (h : hasN n x = true) : ∃ j, j < n ∧ x = nI j := by
  have h := of_decide_eq_true h
  have := Int32.toInt_lt x
  refine ⟨x.toInt.toNat, by omega, ?_⟩
  apply Int32.toInt_inj.mp
  rw [nI_toInt (by omega)]
  omega
theorem has_no {n : Nat} {x : Int32} (h : hasN n x = false) : ¬ (0 ≤ x.toInt ∧ x.toInt < n) := of_decide_eq_false h
theorem bool_c (x : Bool) : x = true ∨ x = false := by cases x <;> simp
theorem stq_ok {M6 M7 : pnM} {adK : Nat → Nat} {av : List Value} {hX hY hX' hY' : List pnE} {t bc bs : Nat} {ok : Value → Prop} {v : Value} (hx : pnCt M6 adK 100 0 0 (.ref 0 :: av) hX (pnIs (.inl (some v)) hX')) (hy : pnCt M7 adK 100 0 0 (.ref 0 :: av) hY (pnIs (.inl (some v)) hY')) (hL : LIw hX' hY' t bc bs) (hv : ok v) : STQ M6 M7 adK 100 100 av hX hY bc bs ok :=
  ⟨_, _, 0, 0, 0, 0, hx, hy, by omega, by omega, ⟨_, _, rfl, rfl⟩, fun r h1 e1 r' h2 e2 => ⟨t, bc, bs, by rw [e1.2, e2.2]; exact hL, by omega, by omega, v, e1.1, e2.1, hv⟩⟩
theorem stp_ok {M6 M7 : pnM} {adK : Nat → Nat} {av : List Value} {hX hY hX' hY' : List pnE} {bc bs : Nat} {cd : String → Nat} {ok : Value → Prop} {v : Value} (hx : pnCt M6 adK 100 0 0 (.ref 0 :: av) hX (pnIs (.inl (some v)) hX')) (hy : pnCt M7 adK 100 0 0 (.ref 0 :: av) hY (pnIs (.inl (some v)) hY')) (hL : LIw hX' hY' 0 bc bs) (hv : ok v) : STP M6 M7 adK 100 100 av hX hY bc bs cd ok :=
  ⟨_, _, 0, 0, 0, 0, hx, hy, by omega, by omega, ⟨_, _, rfl, rfl⟩, fun r h1 e1 r' h2 e2 => ⟨0, bc, bs, by rw [e1.2, e2.2]; exact hL, by omega, by omega, Or.inl ⟨v, e1.1, rfl, e2.1, hv⟩⟩⟩
theorem stp_no {M6 M7 : pnM} {adK : Nat → Nat} {av : List Value} {hX hY hX' hY' : List pnE} {bc bs : Nat} {cd : String → Nat} {ok : Value → Prop} {E : String} {v : Value} (hx : pnCt M6 adK 100 1 6 (.ref 0 :: av) hX (pnIs (.inr E) hX')) (hy : pnCt M7 adK 100 0 0 (.ref 0 :: av) hY (pnIs (.inl (some v)) hY')) {t : Nat} (hL : LIw hX' hY' t bc bs) (ht : t = cd E) (h12 : t = 1 ∨ t = 2) (hv : ok v) : STP M6 M7 adK 100 100 av hX hY bc bs cd ok :=
  ⟨_, _, 1, 6, 0, 0, hx, hy, by omega, by omega, ⟨_, _, rfl, rfl⟩, fun r h1 e1 r' h2 e2 => ⟨t, bc, bs, by rw [e1.2, e2.2]; exact hL, by omega, by omega, Or.inr ⟨E, v, e1.1, e2.1, ht, by omega, by omega, hv⟩⟩⟩
theorem LI_mk (b : Nat → Int32) (tp : Nat) (fp : Int32) (N : NS) (A : AS) (Q : QS) (C : CS) (W : WS) (Z : SS) (ask : Nat → Int32) (rf : Nat → Nat) (Y : MN) (P : Nat → MN) (a : G0) (b1 : G1) (c : G3) (e : G4) (f : G5) (g : G6) (h : G7) (hI : INV b tp fp N A Q C W rf Y P a b1 c e) : LIw (hP b tp fp N A Q C W Z ask rf) (hM Y P a b1 c e f g h) a.1 (cC C.2.1 + potC e.1) (cS C.2.1 + potS e.1) := ⟨b, tp, fp, N, A, Q, C, W, Z, ask, rf, Y, P, a, b1, c, e, f, g, h, rfl, rfl, hI, rfl, Nat.le_refl _, Nat.le_refl _⟩
theorem inv_0 {b : Nat → Int32} {tp : Nat} {fp : Int32} {N : NS} {A : AS} {Q : QS} {C : CS} {W : WS} {rf : Nat → Nat} {Y : MN} {P : Nat → MN} {a : G0} {b1 : G1} {c : G3} {e : G4} (hI : INV b tp fp N A Q C W rf Y P a b1 c e) : INV b tp fp N A Q C W rf Y P (0, a.2) b1 c e := hI
theorem inv_r {b : Nat → Int32} {tp : Nat} {fp : Int32} {N : NS} {A : AS} {Q : QS} {C : CS} {W : WS} {rf : Nat → Nat} {Y : MN} {P : Nat → MN} {a : G0} {b1 : G1} {c : G3} {e : G4} (hI : INV b tp fp N A Q C W rf Y P a b1 c e) (t r : Nat) : INV b tp fp N A Q C W (updN rf r (rf r + 1)) Y P (bdA (0, a.2) t r) b1 c e := by
  obtain ⟨h1, h2, ⟨h3, h4, h5⟩, h6, h7⟩ := hI
  exact ⟨h1, h2, ⟨h3, h4, by show updN a.2.1 r (a.2.1 r + 1) = _; rw [h5]⟩, h6, h7⟩
def cd1 (x : String) (E : String) : Nat := if E = x then 1 else 0
def cd2 (x y : String) (E : String) : Nat := if E = x then 1 else if E = y then 2 else 0
theorem cN1 : 1 = cd1 "java/util/NoSuchElementException" "java/util/NoSuchElementException" := by decide +kernel
theorem cA1 : 1 = cd1 "java/lang/IllegalArgumentException" "java/lang/IllegalArgumentException" := by decide +kernel
theorem cS1 : 1 = cd1 "java/lang/IllegalStateException" "java/lang/IllegalStateException" := by decide +kernel
theorem cNA1 : 1 = cd2 "java/util/NoSuchElementException" "java/lang/IllegalArgumentException" "java/util/NoSuchElementException" := by decide +kernel
theorem cNA2 : 2 = cd2 "java/util/NoSuchElementException" "java/lang/IllegalArgumentException" "java/lang/IllegalArgumentException" := by decide +kernel
theorem cAS1 : 1 = cd2 "java/lang/IllegalArgumentException" "java/lang/IllegalStateException" "java/lang/IllegalArgumentException" := by decide +kernel
theorem cAS2 : 2 = cd2 "java/lang/IllegalArgumentException" "java/lang/IllegalStateException" "java/lang/IllegalStateException" := by decide +kernel
theorem st_fault (adK : Nat → Nat) (b : Nat → Int32) (tp : Nat) (fp : Int32) (N : NS) (A : AS) (Q : QS) (C : CS) (W : WS) (Z : SS) (ask : Nat → Int32) (rf : Nat → Nat) (Y : MN) (P : Nat → MN) (a : G0) (b1 : G1) (c : G3) (e : G4) (f : G5) (g : G6) (h : G7) (hI : INV b tp fp N A Q C W rf Y P a b1 c e) : STQ mX6_fault mX7_fault adK 100 100 [] (hP b tp fp N A Q C W Z ask rf) (hM Y P a b1 c e f g h) (cC C.2.1 + potC e.1) (cS C.2.1 + potS e.1) okI := by
  have hI0 := hI
  obtain ⟨⟨hq, hrw⟩, ⟨hby, htp, ht3, hat, hafp⟩, ⟨hE, hac, harf⟩, ⟨hpl, hc5⟩, ⟨hC, hWk, hly⟩⟩ := hI0
  have hy := m_fault adK 100 Y P a b1 c e f g h
  rw [hafp] at hy
  exact stq_ok (p_fault adK 100 b tp fp N A Q C W Z ask rf hq) hy (LI_mk b tp fp N A Q C W Z ask rf Y P (0, a.2) b1 c e f g h (inv_0 hI)) ⟨_, rfl⟩
theorem st_left (adK : Nat → Nat) (b : Nat → Int32) (tp : Nat) (fp : Int32) (N : NS) (A : AS) (Q : QS) (C : CS) (W : WS) (Z : SS) (ask : Nat → Int32) (rf : Nat → Nat) (Y : MN) (P : Nat → MN) (a : G0) (b1 : G1) (c : G3) (e : G4) (f : G5) (g : G6) (h : G7) (hI : INV b tp fp N A Q C W rf Y P a b1 c e) : STQ mX6_left mX7_left adK 100 100 [] (hP b tp fp N A Q C W Z ask rf) (hM Y P a b1 c e f g h) (cC C.2.1 + potC e.1) (cS C.2.1 + potS e.1) okL := by
  have hI0 := hI
  obtain ⟨⟨hq, hrw⟩, ⟨hby, htp, ht3, hat, hafp⟩, ⟨hE, hac, harf⟩, ⟨hpl, hc5⟩, ⟨hC, hWk, hly⟩⟩ := hI0
  obtain ⟨hS, hn, hn2, hpc, h55, hsb⟩ := eqS_b hE
  obtain ⟨⟨y1, y2, y3, y4, y5, y6⟩, y7, ⟨bN, ybs, yB⟩, yr⟩ := id hE
  have hy := m_left adK 97 Y P a b1 c e f g h (by omega)
  rw [eqS_lf hE] at hy
  exact stq_ok (p_left adK 99 b tp fp N A Q C W Z ask rf hq hpc) hy (LI_mk b tp fp N A Q C W Z ask rf Y P (0, a.2) b1 c e f g h (inv_0 hI)) ⟨_, rfl⟩
theorem prt_agree {ps ps' : Nat → Int64} {x : Int64} : ∀ m, (∀ j, j < m → ps j = ps' j) → prtN ps x m = prtN ps' x m
  | 0, _ => rfl
  | m + 1, h => by
    show 31 * prtN ps x m + ps m = 31 * prtN ps' x m + ps' m
    rw [prt_agree m (fun j hj => h j (by omega)), h m (by omega)]
theorem pw_agree {ps ps' : Nat → Int64} {x : Int64} : ∀ m i, (∀ j, j < i + m → ps j = ps' j) → pwN ps x i m = pwN ps' x i m
  | 0, _, _ => rfl
  | m + 1, i, h => by
    show (if ps i &&& x = 0 then pwN ps x (i + 1) m else nI i) = if ps' i &&& x = 0 then pwN ps' x (i + 1) m else nI i
    rw [h i (by omega), pw_agree m (i + 1) (fun j hj => h j (by omega))]
theorem pm_agree {ps ps' : Nat → Int64} {x : Int64} : ∀ m, (∀ j, j < m → ps j = ps' j) → pmN ps x m = pmN ps' x m
  | 0, _ => rfl
  | m + 1, h => by
    show (if ps m &&& x = 0 then pmN ps x m else pmN ps x m + 1) = if ps' m &&& x = 0 then pmN ps' x m else pmN ps' x m + 1
    rw [pm_agree m (fun j hj => h j (by omega)), h m (by omega)]
theorem st_print (adK : Nat → Nat) (b : Nat → Int32) (tp : Nat) (fp : Int32) (N : NS) (A : AS) (Q : QS) (C : CS) (W : WS) (Z : SS) (ask : Nat → Int32) (rf : Nat → Nat) (Y : MN) (P : Nat → MN) (a : G0) (b1 : G1) (c : G3) (e : G4) (f : G5) (g : G6) (h : G7) (hI : INV b tp fp N A Q C W rf Y P a b1 c e) : STQ mX6_print mX7_print adK 100 100 [] (hP b tp fp N A Q C W Z ask rf) (hM Y P a b1 c e f g h) (cC C.2.1 + potC e.1) (cS C.2.1 + potS e.1) okL := by
  have hI0 := hI
  obtain ⟨⟨hq, hrw⟩, ⟨hby, htp, ht3, hat, hafp⟩, ⟨hE, hac, harf⟩, ⟨hpl, hc5⟩, ⟨hC, hWk, hly⟩⟩ := hI0
  obtain ⟨hS, hn, hn2, hpc, h55, hsb⟩ := eqS_b hE
  obtain ⟨⟨y1, y2, y3, y4, y5, y6⟩, y7, ⟨bN, ybs, yB⟩, yr⟩ := id hE
  have hy := m_print adK 97 Y P a b1 c e f g h (by omega)
  rw [eqS_lf hE, y5, ← prt_agree _ y7] at hy
  exact stq_ok (p_print adK 99 b tp fp N A Q C W Z ask rf hq hpc) hy (LI_mk b tp fp N A Q C W Z ask rf Y P (0, a.2) b1 c e f g h (inv_0 hI)) ⟨_, rfl⟩
theorem clamp_nI {j : Nat} (h : j ≤ 100000) : (nI j).toNatClampNeg = j := by
  show (nI j).toInt.toNat = j
  rw [nI_toInt (by omega)]
  rfl
theorem st_status (adK : Nat → Nat) (x : Int32) (b : Nat → Int32) (tp : Nat) (fp : Int32) (N : NS) (A : AS) (Q : QS) (C : CS) (W : WS) (Z : SS) (ask : Nat → Int32) (rf : Nat → Nat) (Y : MN) (P : Nat → MN) (a : G0) (b1 : G1) (c : G3) (e : G4) (f : G5) (g : G6) (h : G7) (hI : INV b tp fp N A Q C W rf Y P a b1 c e) : STQ mX6_status mX7_status adK 100 100 [.int x] (hP b tp fp N A Q C W Z ask rf) (hM Y P a b1 c e f g h) (cC C.2.1 + potC e.1) (cS C.2.1 + potS e.1) okI := by
  have hI0 := hI
  obtain ⟨⟨hq, hrw⟩, ⟨hby, htp, ht3, hat, hafp⟩, ⟨hE, hac, harf⟩, ⟨hpl, hc5⟩, ⟨hC, hWk, hly⟩⟩ := hI0
  have hy := m_status adK 99 Y P a b1 c e f g h x
  rw [harf] at hy
  rcases bool_c (hasN 3 x) with q | q
  · rw [if_pos q] at hy
    obtain ⟨j, hj, rfl⟩ := has_ex q
    rw [clamp_nI (by omega)] at hy
    exact stq_ok (p_status adK 100 b tp fp N A Q C W Z ask rf hq j hj) hy (LI_mk b tp fp N A Q C W Z ask rf Y P (0, a.2) b1 c e f g h (inv_0 hI)) ⟨_, rfl⟩
  · rw [if_neg (by rw [q]; exact Bool.false_ne_true)] at hy
    exact stq_ok (p_statusNo adK 100 b tp fp N A Q C W Z ask rf hq x q) hy (LI_mk b tp fp N A Q C W Z ask rf Y P (0, a.2) b1 c e f g h (inv_0 hI)) ⟨_, rfl⟩
theorem st_tests (adK : Nat → Nat) (b : Nat → Int32) (tp : Nat) (fp : Int32) (N : NS) (A : AS) (Q : QS) (C : CS) (W : WS) (Z : SS) (ask : Nat → Int32) (rf : Nat → Nat) (Y : MN) (P : Nat → MN) (a : G0) (b1 : G1) (c : G3) (e : G4) (f : G5) (g : G6) (h : G7) (hI : INV b tp fp N A Q C W rf Y P a b1 c e) : STQ mX6_tests mX7_tests adK 100 100 [] (hP b tp fp N A Q C W Z ask rf) (hM Y P a b1 c e f g h) (cC C.2.1 + potC e.1) (cS C.2.1 + potS e.1) okI := by
  have hI0 := hI
  obtain ⟨⟨hq, hrw⟩, ⟨hby, htp, ht3, hat, hafp⟩, ⟨hE, hac, harf⟩, ⟨hpl, hc5⟩, ⟨hC, hWk, hly⟩⟩ := hI0
  obtain ⟨hS, hn, hn2, hpc, h55, hsb⟩ := eqS_b hE
  obtain ⟨⟨y1, y2, y3, y4, y5, y6⟩, y7, ⟨bN, ybs, yB⟩, yr⟩ := id hE
  have hy := m_tests adK 97 Y P a b1 c e f g h (by omega) (by omega) (by rw [y3, y4]; exact hS) (by rw [eqS_lf hE]; exact h55)
  rw [eqS_lf hE, y1, y3, y4, ← od_eq _ hn] at hy
  exact stq_ok (p_tests adK 96 b tp fp N A Q C W Z ask rf hq hn hpc hS) hy (LI_mk b tp fp N A Q C W Z ask rf Y P (0, a.2) b1 c e f g h (inv_0 hI)) ⟨_, rfl⟩
theorem st_told (adK : Nat → Nat) (x : Int32) (b : Nat → Int32) (tp : Nat) (fp : Int32) (N : NS) (A : AS) (Q : QS) (C : CS) (W : WS) (Z : SS) (ask : Nat → Int32) (rf : Nat → Nat) (Y : MN) (P : Nat → MN) (a : G0) (b1 : G1) (c : G3) (e : G4) (f : G5) (g : G6) (h : G7) (hI : INV b tp fp N A Q C W rf Y P a b1 c e) : STP mX6_told mX7_told adK 100 100 [.int x] (hP b tp fp N A Q C W Z ask rf) (hM Y P a b1 c e f g h) (cC C.2.1 + potC e.1) (cS C.2.1 + potS e.1) (cd1 "java/lang/IllegalArgumentException") okI := by
  have hI0 := hI
  obtain ⟨⟨hq, hrw⟩, ⟨hby, htp, ht3, hat, hafp⟩, ⟨hE, hac, harf⟩, ⟨hpl, hc5⟩, ⟨hC, hWk, hly⟩⟩ := hI0
  obtain ⟨hS, hn, hn2, hpc, h55, hsb⟩ := eqS_b hE
  obtain ⟨⟨y1, y2, y3, y4, y5, y6⟩, y7, ⟨bN, ybs, yB⟩, yr⟩ := id hE
  rcases bool_c (hasN 9 x) with q | q
  · obtain ⟨j, hj, rfl⟩ := has_ex q
    have hj : j = 0 ∨ j = 1 ∨ j = 2 ∨ j = 3 ∨ j = 4 ∨ j = 5 ∨ j = 6 ∨ j = 7 ∨ j = 8 := by omega
    rcases hj with z | z | z | z | z | z | z | z | z <;> subst z
    · have hy := m_told0 adK 97 Y P a b1 c e f g h (by omega)
      rw [y1] at hy
      exact stp_ok (p_told0 adK 98 b tp fp N A Q C W Z ask rf hq hpc) hy (LI_mk b tp fp N A Q C W Z ask rf Y P (0, a.2) b1 c e f g h (inv_0 hI)) ⟨_, rfl⟩
    · have hy := m_told1 adK 97 Y P a b1 c e f g h (by omega)
      rw [y2, ones_pc yr.2.2.2.1] at hy
      exact stp_ok (p_told1 adK 98 b tp fp N A Q C W Z ask rf hq hpc) hy (LI_mk b tp fp N A Q C W Z ask rf Y P (0, a.2) b1 c e f g h (inv_0 hI)) ⟨_, rfl⟩
    · have hy := m_told2 adK 97 Y P a b1 c e f g h (by omega)
      rw [y3] at hy
      exact stp_ok (p_told2 adK 98 b tp fp N A Q C W Z ask rf hq hpc) hy (LI_mk b tp fp N A Q C W Z ask rf Y P (0, a.2) b1 c e f g h (inv_0 hI)) ⟨_, rfl⟩
    · have hy := m_told3 adK 97 Y P a b1 c e f g h (by omega)
      rw [y4] at hy
      exact stp_ok (p_told3 adK 98 b tp fp N A Q C W Z ask rf hq hpc) hy (LI_mk b tp fp N A Q C W Z ask rf Y P (0, a.2) b1 c e f g h (inv_0 hI)) ⟨_, rfl⟩
    · have hy := m_told4 adK 97 Y P a b1 c e f g h (by omega)
      rw [y5] at hy
      exact stp_ok (p_told4 adK 98 b tp fp N A Q C W Z ask rf hq hpc) hy (LI_mk b tp fp N A Q C W Z ask rf Y P (0, a.2) b1 c e f g h (inv_0 hI)) ⟨_, rfl⟩
    · have hy := m_told5 adK 97 Y P a b1 c e f g h (by omega)
      rw [eqS_lf hE, ones_pc h55] at hy
      exact stp_ok (p_told5 adK 98 b tp fp N A Q C W Z ask rf hq hpc) hy (LI_mk b tp fp N A Q C W Z ask rf Y P (0, a.2) b1 c e f g h (inv_0 hI)) ⟨_, rfl⟩
    · have hy := m_told6 adK 97 Y P a b1 c e f g h (by omega)
      rw [y6] at hy
      exact stp_ok (p_told6 adK 98 b tp fp N A Q C W Z ask rf hq hpc) hy (LI_mk b tp fp N A Q C W Z ask rf Y P (0, a.2) b1 c e f g h (inv_0 hI)) ⟨_, rfl⟩
    · have hy := m_told7 adK 97 Y P a b1 c e f g h (by omega)
      rw [hat] at hy
      exact stp_ok (p_told7 adK 98 b tp fp N A Q C W Z ask rf hq hpc) hy (LI_mk b tp fp N A Q C W Z ask rf Y P (0, a.2) b1 c e f g h (inv_0 hI)) ⟨_, rfl⟩
    · have hy := m_told8 adK 97 Y P a b1 c e f g h
      rw [← hac.1] at hy
      exact stp_ok (p_told8 adK 98 b tp fp N A Q C W Z ask rf hq) hy (LI_mk b tp fp N A Q C W Z ask rf Y P (0, a.2) b1 c e f g h (inv_0 hI)) ⟨_, rfl⟩
  · exact stp_no (p_toldX adK 93 b tp fp N A Q C W Z ask rf hq x q) (m_toldX adK 97 Y P a b1 c e f g h x q) (LI_mk b tp fp N A Q C W Z ask _ Y P _ b1 c e f g h (inv_r hI 1 1)) cA1 (Or.inl rfl) ⟨_, rfl⟩
theorem st_line (adK : Nat → Nat) (x y w : Int32) (b : Nat → Int32) (tp : Nat) (fp : Int32) (N : NS) (A : AS) (Q : QS) (C : CS) (W : WS) (Z : SS) (ask : Nat → Int32) (rf : Nat → Nat) (Y : MN) (P : Nat → MN) (a : G0) (b1 : G1) (c : G3) (e : G4) (f : G5) (g : G6) (h : G7) (hI : INV b tp fp N A Q C W rf Y P a b1 c e) : STP mX6_line mX7_line adK 100 100 [.int x, .int y, .int w] (hP b tp fp N A Q C W Z ask rf) (hM Y P a b1 c e f g h) (cC C.2.1 + potC e.1) (cS C.2.1 + potS e.1) (cd2 "java/util/NoSuchElementException" "java/lang/IllegalArgumentException") okI := by
  have hI0 := hI
  obtain ⟨⟨hq, hrw⟩, ⟨hby, htp, ht3, hat, hafp⟩, ⟨hE, hac, harf⟩, ⟨hpl, hc5⟩, ⟨hC, hWk, hly⟩⟩ := hI0
  obtain ⟨hS, hn, hn2, hpc, h55, hsb⟩ := eqS_b hE
  obtain ⟨⟨y1, y2, y3, y4, y5, y6⟩, y7, ⟨bN, ybs, yB⟩, yr⟩ := id hE
  rcases bool_c (hasN N.1 x) with qx | qx
  · rcases bool_c (hasN N.1 y) with qy | qy
    · by_cases qe : x = y
      · subst qe
        exact stp_no (p_lineXc adK 93 b tp fp N A Q C W Z ask rf hq x w hn qx) (m_lineXb adK 98 Y P a b1 c e f g h x x w (by omega) (by omega) (by rw [y1]; exact qx) (by rw [y1]; exact qx) (Or.inl rfl)) (LI_mk b tp fp N A Q C W Z ask _ Y P _ b1 c e f g h (inv_r hI 2 1)) cNA2 (Or.inr rfl) ⟨_, rfl⟩
      · rcases bool_c (hasN 3 w) with qw | qw
        · obtain ⟨i, hi, rfl⟩ := has_ex qx
          obtain ⟨j, hj, rfl⟩ := has_ex qy
          obtain ⟨k, hk, rfl⟩ := has_ex qw
          have hij : i ≠ j := fun z => qe (by rw [z])
          have hk : k = 0 ∨ k = 1 ∨ k = 2 := by omega
          rcases hk with z | z | z <;> subst z
          · have hy := m_line0 adK 98 Y P a b1 c e f g h i j (by omega) (by omega) (by omega) (by omega) hij
            rw [y1] at hy
            exact stp_ok (p_line0 adK 98 b tp fp N A Q C W Z ask rf hq i j hn hpc hi hj hij) hy (LI_mk b tp fp N A Q C W Z ask rf Y P (0, a.2) b1 c e f g h (inv_0 hI)) ⟨_, rfl⟩
          · have hy := m_line1 adK 98 Y P a b1 c e f g h i j (by omega) (by omega) (by omega) (by omega) hij
            rw [y1, y2] at hy
            exact stp_ok (p_line1 adK 98 b tp fp N A Q C W Z ask rf hq i j hn hpc hi hj hij) hy (LI_mk b tp fp N A Q C W Z ask rf Y P (0, a.2) b1 c e f g h (inv_0 hI)) ⟨_, rfl⟩
          · have hy := m_line2 adK 98 Y P a b1 c e f g h i j (by omega) (by omega) (by omega) (by omega) hij
            rw [y1, y5, ← pw_agree _ 0 (fun j hj => y7 j (by omega))] at hy
            exact stp_ok (p_line2 adK 98 b tp fp N A Q C W Z ask rf hq i j hn hpc hi hj hij) hy (LI_mk b tp fp N A Q C W Z ask rf Y P (0, a.2) b1 c e f g h (inv_0 hI)) ⟨_, rfl⟩
        · exact stp_no (p_lineXd adK 93 b tp fp N A Q C W Z ask rf hq x y w hn qx qy qe qw) (m_lineXb adK 98 Y P a b1 c e f g h x y w (by omega) (by omega) (by rw [y1]; exact qx) (by rw [y1]; exact qy) (Or.inr qw)) (LI_mk b tp fp N A Q C W Z ask _ Y P _ b1 c e f g h (inv_r hI 2 1)) cNA2 (Or.inr rfl) ⟨_, rfl⟩
    · exact stp_no (p_lineXb adK 93 b tp fp N A Q C W Z ask rf hq x y w hn qx qy) (m_lineXa adK 98 Y P a b1 c e f g h x y w (by omega) (by omega) (by rw [y1, qy]; exact fun z => Bool.false_ne_true z.2)) (LI_mk b tp fp N A Q C W Z ask _ Y P _ b1 c e f g h (inv_r hI 1 0)) cNA1 (Or.inl rfl) ⟨_, rfl⟩
  · exact stp_no (p_lineXa adK 93 b tp fp N A Q C W Z ask rf hq x y w hn qx) (m_lineXa adK 98 Y P a b1 c e f g h x y w (by omega) (by omega) (by rw [y1, qx]; exact fun z => Bool.false_ne_true z.1)) (LI_mk b tp fp N A Q C W Z ask _ Y P _ b1 c e f g h (inv_r hI 1 0)) cNA1 (Or.inl rfl) ⟨_, rfl⟩
theorem st_node (adK : Nat → Nat) (x w : Int32) (b : Nat → Int32) (tp : Nat) (fp : Int32) (N : NS) (A : AS) (Q : QS) (C : CS) (W : WS) (Z : SS) (ask : Nat → Int32) (rf : Nat → Nat) (Y : MN) (P : Nat → MN) (a : G0) (b1 : G1) (c : G3) (e : G4) (f : G5) (g : G6) (h : G7) (hI : INV b tp fp N A Q C W rf Y P a b1 c e) : STP mX6_node mX7_node adK 100 100 [.int x, .int w] (hP b tp fp N A Q C W Z ask rf) (hM Y P a b1 c e f g h) (cC C.2.1 + potC e.1) (cS C.2.1 + potS e.1) (cd2 "java/util/NoSuchElementException" "java/lang/IllegalArgumentException") okI := by
  have hI0 := hI
  obtain ⟨⟨hq, hrw⟩, ⟨hby, htp, ht3, hat, hafp⟩, ⟨hE, hac, harf⟩, ⟨hpl, hc5⟩, ⟨hC, hWk, hly⟩⟩ := hI0
  obtain ⟨hS, hn, hn2, hpc, h55, hsb⟩ := eqS_b hE
  obtain ⟨⟨y1, y2, y3, y4, y5, y6⟩, y7, ⟨bN, ybs, yB⟩, yr⟩ := id hE
  rcases bool_c (hasN N.1 x) with qx | qx
  · rcases bool_c (hasN 3 w) with qw | qw
    · obtain ⟨i, hi, rfl⟩ := has_ex qx
      obtain ⟨k, hk, rfl⟩ := has_ex qw
      have hk : k = 0 ∨ k = 1 ∨ k = 2 := by omega
      rcases hk with z | z | z <;> subst z
      · have hy := m_node0 adK 97 Y P a b1 c e f g h i (by omega) (by omega) (by omega)
        rw [y1, y2, ← la_pc _ hn hi _ (Nat.le_refl _)] at hy
        exact stp_ok (p_node0 adK 97 b tp fp N A Q C W Z ask rf hq i hn hpc hi) hy (LI_mk b tp fp N A Q C W Z ask rf Y P (0, a.2) b1 c e f g h (inv_0 hI)) ⟨_, rfl⟩
      · have hy := m_node1 adK 97 Y P a b1 c e f g h i (by omega) (by omega) (by omega)
        rw [eqS_lf hE, y1, ← la_pc _ hn hi _ (Nat.le_refl _)] at hy
        exact stp_ok (p_node1 adK 97 b tp fp N A Q C W Z ask rf hq i hn hpc hi) hy (LI_mk b tp fp N A Q C W Z ask rf Y P (0, a.2) b1 c e f g h (inv_0 hI)) ⟨_, rfl⟩
      · have hy := m_node2 adK 97 Y P a b1 c e f g h i (by omega) (by omega) (by omega)
        rw [y1, y5, ← pm_agree _ y7] at hy
        exact stp_ok (p_node2 adK 97 b tp fp N A Q C W Z ask rf hq i hn hpc hi) hy (LI_mk b tp fp N A Q C W Z ask rf Y P (0, a.2) b1 c e f g h (inv_0 hI)) ⟨_, rfl⟩
    · exact stp_no (p_nodeXb adK 93 b tp fp N A Q C W Z ask rf hq x w hn qx qw) (m_nodeXb adK 98 Y P a b1 c e f g h x w (by omega) (by omega) (by rw [y1]; exact qx) qw) (LI_mk b tp fp N A Q C W Z ask _ Y P _ b1 c e f g h (inv_r hI 2 1)) cNA2 (Or.inr rfl) ⟨_, rfl⟩
  · exact stp_no (p_nodeXa adK 93 b tp fp N A Q C W Z ask rf hq x w hn qx) (m_nodeXa adK 98 Y P a b1 c e f g h x w (by omega) (by omega) (by rw [y1]; exact qx)) (LI_mk b tp fp N A Q C W Z ask _ Y P _ b1 c e f g h (inv_r hI 1 0)) cNA1 (Or.inl rfl) ⟨_, rfl⟩
theorem neg_nI {x : Int32} : x < 0 ∨ ∃ m, m < 2147483648 ∧ x = nI m := by
  by_cases q : 0 ≤ x.toInt
  · right
    have := Int32.toInt_lt x
    refine ⟨x.toInt.toNat, by omega, ?_⟩
    apply Int32.toInt_inj.mp
    rw [nI_toInt (by omega)]
    omega
  · left
    rw [Int32.lt_iff_toInt_lt]
    show x.toInt < 0
    omega
theorem st_part (adK : Nat → Nat) (x y : Int32) (b : Nat → Int32) (tp : Nat) (fp : Int32) (N : NS) (A : AS) (Q : QS) (C : CS) (W : WS) (Z : SS) (ask : Nat → Int32) (rf : Nat → Nat) (Y : MN) (P : Nat → MN) (a : G0) (b1 : G1) (c : G3) (e : G4) (f : G5) (g : G6) (h : G7) (hI : INV b tp fp N A Q C W rf Y P a b1 c e) : STP mX6_part mX7_part adK 100 100 [.int x, .int y] (hP b tp fp N A Q C W Z ask rf) (hM Y P a b1 c e f g h) (cC C.2.1 + potC e.1) (cS C.2.1 + potS e.1) (cd1 "java/util/NoSuchElementException") okI := by
  have hI0 := hI
  obtain ⟨⟨hq, hrw⟩, ⟨hby, htp, ht3, hat, hafp⟩, ⟨hE, hac, harf⟩, ⟨hpl, hc5⟩, ⟨hC, hWk, hly⟩⟩ := hI0
  obtain ⟨hS, hn, hn2, hpc, h55, hsb⟩ := eqS_b hE
  obtain ⟨⟨y1, y2, y3, y4, y5, y6⟩, y7, ⟨bN, ybs, yB⟩, yr⟩ := id hE
  obtain ⟨k1, k2, k3, -⟩ := shOk_b hS
  rcases bool_c (hasN N.2.2.2.2.1 x) with qx | qx
  · obtain ⟨p, hp, rfl⟩ := has_ex qx
    have hpt := (yr.2.2.2.2.1 p hp).1
    have hpk := hpt.pc hS hn
    rcases bool_c (hasN N.2.2.2.1 y) with qy | qy
    · obtain ⟨i, hi, rfl⟩ := has_ex qy
      have hy := m_part adK 98 Y P a b1 c e f g h p i (by omega) (by omega) (by omega)
      rw [← y7 p hp] at hy
      unfold ptM at hy
      rw [if_neg (fun z => by have := (clr_iff _ _).mp z; omega)] at hy
      exact stp_ok (p_part adK 98 b tp fp N A Q C W Z ask rf hq p i hpc (by omega) hp hi) hy (LI_mk b tp fp N A Q C W Z ask rf Y P (0, a.2) b1 c e f g h (inv_0 hI)) ⟨_, rfl⟩
    · have hx := p_partNo adK 98 b tp fp N A Q C W Z ask rf hq (nI p) y hpc (by omega) qx qy
      rcases neg_nI (x := y) with hy0 | ⟨m, hm, rfl⟩
      · exact stp_ok hx (m_partN adK 98 Y P a b1 c e f g h p y (by omega) (by omega) hy0) (LI_mk b tp fp N A Q C W Z ask rf Y P (0, a.2) b1 c e f g h (inv_0 hI)) ⟨_, rfl⟩
      · have hy := m_part adK 98 Y P a b1 c e f g h p m (by omega) (by omega) hm
        rw [← y7 p hp] at hy
        unfold ptM at hy
        have hmk : N.2.2.2.1 ≤ m := by
          have := has_no qy
          rw [nI_toInt (by omega)] at this
          omega
        rw [if_pos ((clr_iff _ _).mpr (by omega))] at hy
        exact stp_ok hx hy (LI_mk b tp fp N A Q C W Z ask rf Y P (0, a.2) b1 c e f g h (inv_0 hI)) ⟨_, rfl⟩
  · exact stp_no (p_partXa adK 93 b tp fp N A Q C W Z ask rf hq x y hpc qx) (m_partX adK 98 Y P a b1 c e f g h x y (by omega) (by rw [y5]; exact qx)) (LI_mk b tp fp N A Q C W Z ask _ Y P _ b1 c e f g h (inv_r hI 1 0)) cN1 (Or.inl rfl) ⟨_, rfl⟩
theorem sh_pl5 {sh k : Nat} (hS : shOk sh k) : plN sh k ≤ 5 := by
  rcases hS with ⟨h1, h2⟩ | ⟨h1, h2, h3⟩ | ⟨h1, h2, h3⟩ | ⟨h1, h2, h3⟩ <;> subst h1
  · subst h2; decide
  · show k + 1 ≤ 5; omega
  · show k + 1 ≤ 5; omega
  · show k ≤ 5; omega
theorem st_base (adK : Nat → Nat) (x y : Int32) (b : Nat → Int32) (tp : Nat) (fp : Int32) (N : NS) (A : AS) (Q : QS) (C : CS) (W : WS) (Z : SS) (ask : Nat → Int32) (rf : Nat → Nat) (Y : MN) (P : Nat → MN) (a : G0) (b1 : G1) (c : G3) (e : G4) (f : G5) (g : G6) (h : G7) (hI : INV b tp fp N A Q C W rf Y P a b1 c e) : STP mX6_base mX7_base adK 100 100 [.int x, .int y] (hP b tp fp N A Q C W Z ask rf) (hM Y P a b1 c e f g h) (cC C.2.1 + potC e.1) (cS C.2.1 + potS e.1) (cd1 "java/util/NoSuchElementException") okI := by
  have hI0 := hI
  obtain ⟨⟨hq, hrw⟩, ⟨hby, htp, ht3, hat, hafp⟩, ⟨hE, hac, harf⟩, ⟨hpl, hc5⟩, ⟨hC, hWk, hly⟩⟩ := hI0
  obtain ⟨hS, hn, hn2, hpc, h55, hsb⟩ := eqS_b hE
  obtain ⟨⟨y1, y2, y3, y4, y5, y6⟩, y7, ⟨bN, ybs, yB⟩, yr⟩ := id hE
  obtain ⟨k1, k2, k3, -⟩ := shOk_b hS
  have h5 := sh_pl5 hS
  obtain ⟨z1, z2, z3⟩ := yB
  rcases bool_c (hasN N.2.2.2.2.2.1 x) with qx | qx
  · obtain ⟨i, hi, rfl⟩ := has_ex qx
    obtain ⟨w1, w2⟩ := z3 i (by omega)
    rw [y3, y4] at w1 w2
    have hy := m_base adK 98 Y P a b1 c e f g h i y z1 (by omega) (by omega)
    rw [w1] at hy
    rcases bool_c (hasN (plN N.2.2.1 N.2.2.2.1) y) with qy | qy
    · rw [if_pos qy] at hy
      obtain ⟨j, hj, rfl⟩ := has_ex qy
      rw [clamp_nI (by omega), w2 j hj] at hy
      exact stp_ok (p_base adK 98 b tp fp N A Q C W Z ask rf hq bN ybs i j k1 (by omega) hi hj h5) hy (LI_mk b tp fp N A Q C W Z ask rf Y P (0, a.2) b1 c e f g h (inv_0 hI)) ⟨_, rfl⟩
    · rw [if_neg (by rw [qy]; exact Bool.false_ne_true)] at hy
      exact stp_ok (p_baseNo adK 98 b tp fp N A Q C W Z ask rf hq i y k1 (by omega) hi qy (by omega)) hy (LI_mk b tp fp N A Q C W Z ask rf Y P (0, a.2) b1 c e f g h (inv_0 hI)) ⟨_, rfl⟩
  · exact stp_no (p_baseX adK 94 b tp fp N A Q C W Z ask rf hq x y (by omega) qx) (m_baseX adK 98 Y P a b1 c e f g h x y z1 (by rw [y6]; exact qx)) (LI_mk b tp fp N A Q C W Z ask _ Y P _ b1 c e f g h (inv_r hI 1 0)) cN1 (Or.inl rfl) ⟨_, rfl⟩
theorem rd_ex {x : Int32} (h : rdB x = true) : ∃ j, 3 ≤ j ∧ j ≤ 31 ∧ x = nI j := by
  have h := of_decide_eq_true h
  refine ⟨x.toInt.toNat, by omega, by omega, ?_⟩
  apply Int32.toInt_inj.mp
  rw [nI_toInt (by omega)]
  omega
theorem st_cover (adK : Nat → Nat) (x y : Int32) (b : Nat → Int32) (tp : Nat) (fp : Int32) (N : NS) (A : AS) (Q : QS) (C : CS) (W : WS) (Z : SS) (ask : Nat → Int32) (rf : Nat → Nat) (Y : MN) (P : Nat → MN) (a : G0) (b1 : G1) (c : G3) (e : G4) (f : G5) (g : G6) (h : G7) (hI : INV b tp fp N A Q C W rf Y P a b1 c e) : STP mX6_cover mX7_cover adK 100 100 [.int x, .int y] (hP b tp fp N A Q C W Z ask rf) (hM Y P a b1 c e f g h) (cC C.2.1 + potC e.1) (cS C.2.1 + potS e.1) (cd1 "java/lang/IllegalArgumentException") okI := by
  have hI0 := hI
  obtain ⟨⟨hq, hrw⟩, ⟨hby, htp, ht3, hat, hafp⟩, ⟨hE, hac, harf⟩, ⟨hpl, hc5⟩, ⟨hC, hWk, hly⟩⟩ := hI0
  obtain ⟨hS, hn, hn2, hpc, h55, hsb⟩ := eqS_b hE
  obtain ⟨⟨y1, y2, y3, y4, y5, y6⟩, y7, ⟨bN, ybs, yB⟩, yr⟩ := id hE
  have z1 := yB.1
  have z2 := yB.2.1
  rcases bool_c (rdB x) with qx | qx
  · obtain ⟨m, h3, h31, rfl⟩ := rd_ex qx
    by_cases qy : 1 ≤ y.toInt ∧ y.toInt ≤ ((m / 2 : Nat) : Int)
    · obtain ⟨q, hq1, rfl⟩ : ∃ q : Nat, (1 ≤ q ∧ q ≤ m / 2) ∧ y = nI q := by
        refine ⟨y.toInt.toNat, by omega, ?_⟩
        apply Int32.toInt_inj.mp
        rw [nI_toInt (by omega)]
        omega
      have hy := m_cover adK 96 Y P a b1 c e f g h bN m q (by rw [y3, y4]; exact hS) yB h3 h31 hq1.1 hq1.2
      rw [y3, y4, y6] at hy
      exact stp_ok (p_cover adK 97 b tp fp N A Q C W Z ask rf hq bN ybs m q hS (by omega) z2 h3 h31 hq1.1 hq1.2) hy (LI_mk b tp fp N A Q C W Z ask rf Y P (0, a.2) b1 c e f g h (inv_0 hI)) ⟨_, rfl⟩
    · exact stp_no (p_coverXb adK 93 b tp fp N A Q C W Z ask rf hq m y h3 h31 qy) (m_coverXb adK 96 Y P a b1 c e f g h m y h3 h31 qy) (LI_mk b tp fp N A Q C W Z ask _ Y P _ b1 c e f g h (inv_r hI 1 1)) cA1 (Or.inl rfl) ⟨_, rfl⟩
  · exact stp_no (p_coverXa adK 93 b tp fp N A Q C W Z ask rf hq x y qx) (m_coverXa adK 96 Y P a b1 c e f g h x y qx) (LI_mk b tp fp N A Q C W Z ask _ Y P _ b1 c e f g h (inv_r hI 1 1)) cA1 (Or.inl rfl) ⟨_, rfl⟩
theorem st_good (adK : Nat → Nat) (x : Int32) (b : Nat → Int32) (tp : Nat) (fp : Int32) (N : NS) (A : AS) (Q : QS) (C : CS) (W : WS) (Z : SS) (ask : Nat → Int32) (rf : Nat → Nat) (Y : MN) (P : Nat → MN) (a : G0) (b1 : G1) (c : G3) (e : G4) (f : G5) (g : G6) (h : G7) (hI : INV b tp fp N A Q C W rf Y P a b1 c e) : STP mX6_good mX7_good adK 100 100 [.int x] (hP b tp fp N A Q C W Z ask rf) (hM Y P a b1 c e f g h) (cC C.2.1 + potC e.1) (cS C.2.1 + potS e.1) (cd1 "java/lang/IllegalArgumentException") okI := by
  have hI0 := hI
  obtain ⟨⟨hq, hrw⟩, ⟨hby, htp, ht3, hat, hafp⟩, ⟨hE, hac, harf⟩, ⟨hpl, hc5⟩, ⟨hC, hWk, hly⟩⟩ := hI0
  obtain ⟨hS, hn, hn2, hpc, h55, hsb⟩ := eqS_b hE
  obtain ⟨⟨y1, y2, y3, y4, y5, y6⟩, y7, ⟨bN, ybs, yB⟩, yr⟩ := id hE
  have z1 := yB.1
  have z2 := yB.2.1
  rcases bool_c (rdB x) with qx | qx
  · obtain ⟨m, h3, h31, rfl⟩ := rd_ex qx
    have hy := m_good adK 96 Y P a b1 c e f g h bN m (by rw [y3, y4]; exact hS) yB h3 h31
    rw [y3, y4, y6] at hy
    exact stp_ok (p_good adK 96 b tp fp N A Q C W Z ask rf hq bN ybs m hS (by omega) z2 h3 h31) hy (LI_mk b tp fp N A Q C W Z ask rf Y P (0, a.2) b1 c e f g h (inv_0 hI)) ⟨_, rfl⟩
  · exact stp_no (p_goodX adK 93 b tp fp N A Q C W Z ask rf hq x qx) (m_goodX adK 96 Y P a b1 c e f g h x qx) (LI_mk b tp fp N A Q C W Z ask _ Y P _ b1 c e f g h (inv_r hI 1 1)) cA1 (Or.inl rfl) ⟨_, rfl⟩
theorem st_classes (adK : Nat → Nat) (b : Nat → Int32) (tp : Nat) (fp : Int32) (N : NS) (A : AS) (Q : QS) (C : CS) (W : WS) (Z : SS) (ask : Nat → Int32) (rf : Nat → Nat) (Y : MN) (P : Nat → MN) (a : G0) (b1 : G1) (c : G3) (e : G4) (f : G5) (g : G6) (h : G7) (hI : INV b tp fp N A Q C W rf Y P a b1 c e) : STP mX6_classes mX7_classes adK 100 100 [] (hP b tp fp N A Q C W Z ask rf) (hM Y P a b1 c e f g h) (cC C.2.1 + potC e.1) (cS C.2.1 + potS e.1) (cd1 "java/lang/IllegalStateException") okI := by
  have hI0 := hI
  obtain ⟨⟨hq, hrw⟩, ⟨hby, htp, ht3, hat, hafp⟩, ⟨hE, hac, harf⟩, ⟨hpl, hc5⟩, ⟨hC, hWk, hly⟩⟩ := hI0
  obtain ⟨hS, hn, hn2, hpc, h55, hsb⟩ := eqS_b hE
  obtain ⟨⟨y1, y2, y3, y4, y5, y6⟩, y7, ⟨bN, ybs, yB⟩, yr⟩ := id hE
  by_cases q : N.2.2.2.2.1 ≤ 14
  · have hy := m_classes adK 80 Y P a b1 c e f g h (by omega) (by omega)
    rw [y1, y5, ← cls_eq hn q y7] at hy
    exact ⟨_, _, 0, 0, 0, 0, p_classes adK 83 b tp fp N A Q C W Z ask rf hq hn q, hy, by omega, by omega, ⟨_, _, rfl, rfl⟩, fun r h1 e1 r' h2 e2 => by
      obtain ⟨s, e3, e4⟩ := e1
      refine ⟨0, (cC C.2.1 + potC e.1), (cS C.2.1 + potS e.1), ?_, by omega, by omega, Or.inl ⟨_, e3, rfl, e2.1, _, rfl⟩⟩
      rw [e4, e2.2]
      exact LI_mk b tp fp N A Q C W _ ask rf Y P (0, a.2) b1 c e f g _ (inv_0 hI)⟩
  · exact stp_no (p_classesX adK 94 b tp fp N A Q C W Z ask rf hq (by omega) hpc) (m_classesX adK 80 Y P a b1 c e f g h (by omega) (by omega)) (LI_mk b tp fp N A Q C W Z ask _ Y P _ b1 c e f g h (inv_r hI 1 2)) cS1 (Or.inl rfl) ⟨_, rfl⟩
