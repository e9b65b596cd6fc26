/-! numbers and nodes, as the reference reads them -/
/-- digits from p on: where they end, what they tell -/
def dgW (F : Nat → Int32) : Nat → Nat → Nat → Nat
  | 0, _, v => v
  | z + 1, p, v => if dgB (F p) = true then dgW F z (p + 1) (min 100000 (10 * v + dgN (F p))) else v
theorem dgW_le (F : Nat → Int32) : ∀ z p v, v ≤ 100000 → dgW F z p v ≤ 100000
  | 0, p, v, h => h
  | z + 1, p, v, h => by
    unfold dgW
    split
    · exact dgW_le F z (p + 1) _ (Nat.min_le_left _ _)
    · exact h
def numE (b : G1) : Nat := dgE b.2.2.2.2.1 (b.1 - tkP b) (tkP b)
def numV (b : G1) : Nat := dgW b.2.2.2.2.1 (b.1 - tkP b) (tkP b) 0
/-- number: what it tells, what becomes of the reading -/
def numM (lo hi : Nat) (but : Int32) (b : G1) : Nat × G1 :=
  if b.2.2.1 = 0 then (if dgB (byM b (tkP b)) = true then (numV b, if (lo ≤ numV b ∧ numV b ≤ hi) ∧ nI (numV b) ≠ but then bAt b (numE b) else bWr (bAt b (numE b)) 2 (nI (tkP b))) else (0, bWr (bAt b (tkP b)) 1 (nI (tkP b)))) else (0, b)
theorem dgB_by {b : G1} {p : Nat} (h : dgB (byM b p) = true) : p < b.1 ∧ dgB (b.2.2.2.2.1 p) = true := by
  unfold byM at h
  split at h
  · exact ⟨by assumption, h⟩
  · exact absurd h (by decide)
theorem inL_range2 {lo hi : Nat} (hlo : lo ≤ 1000) (hhi : hi ≤ 1000) (x : Nat) (hx : x ≤ 1000000) : inL (nI x).toInt64 (nI lo).toInt64 (nI hi).toInt64 = decide (lo ≤ x ∧ x ≤ hi) := by
  unfold inL
  apply decide_eq_decide.mpr
  rw [Int64.le_iff_toInt_le, Int64.le_iff_toInt_le, Int32.toInt_toInt64, Int32.toInt_toInt64, Int32.toInt_toInt64, nI_toInt (by omega), nI_toInt (by omega), nI_toInt (by omega)]
  omega
set_option maxRecDepth 100000 in
theorem m_number (adK : Nat → Nat) (d : Nat) (Y : MN) (P : Nat → MN) (a : G0) (b : G1) (c : G3) (e : G4) (f : G5) (g : G6) (h : G7) (lo hi : Nat) (but : Int32) (hlo : lo ≤ 1000) (hhi : hi ≤ 1000) (hb : rdOk b) (hf : b.2.2.1 = 0) : pnCt mX7_number adK (d + 2) 0 0 [.ref 0, .int (nI lo), .int (nI hi), .int but] (hM Y P a b c e f g h) (pnIs (.inl (some (.int (nI (numM lo hi but b).1)))) (hM Y P a (numM lo hi but b).2 c e f g h)) := by
  refine pnCt_of (by decide) kX7_number (Nat.le_of_ble_eq_true rfl) rfl hM_cl (pnCS_b rfl) ?_
  have CF := m_fine adK d Y P a b c e f g h (by omega)
  rw [decide_eq_true hf] at CF
  have hp9 := tkP_le hb
  have hb3 := hb.1
  have CD := m_isDigit adK d (byM b (tkP b))
  cases hd : dgB (byM b (tkP b)) with
  | false =>
    rw [hd] at CD
    have em : numM lo hi but b = (0, bWr (bAt b (tkP b)) 1 (nI (tkP b))) := by unfold numM; rw [if_pos hf, hd]; rfl
    rw [em]
    refine pn_aload_n (q := 1) dX7_number_0 rfl rfl rfl ?_
    refine pn_idV (q := 4) (bc9 := 0) (bs9 := 0) (CF) lkX7_116 dX7_number_1 rfl rfl (hM_cl) (hM_cl) (Nat.le_of_ble_eq_true rfl) rfl rfl rfl rfl rfl rfl (by omega) (by omega) (by omega) (Nat.le_of_ble_eq_true rfl) ?_
    refine pn_bne (q := 7) (tgt := 9) dX7_number_4 (by decide) rfl (fun hc4 => ?_) (fun hc4 => ?_)
    · refine pn_aload_n (q := 10) dX7_number_9 rfl rfl rfl ?_
      refine pn_idV (q := 13) (bc9 := 0) (bs9 := 0) (m_here adK d Y P a b c e f g h hb) lkX7_120 dX7_number_10 rfl rfl (hM_cl) (hM_cl) (Nat.le_of_ble_eq_true rfl) rfl rfl rfl rfl rfl rfl (by omega) (by omega) (by omega) (Nat.le_of_ble_eq_true rfl) ?_
      refine pn_roS1 (q := 16) (CD) lkX7_141 dX7_number_13 rfl rfl (pnSel_of (I := []) rfl rfl) (pnFree_none rfl) rfl (by omega) (Nat.le_of_ble_eq_true rfl) rfl ?_
      refine pn_bne (q := 19) (tgt := 30) dX7_number_16 (by decide) rfl (fun hc16 => ?_) (fun hc16 => ?_)
      · cases hc16
      · refine pn_aload_n (q := 20) dX7_number_19 rfl rfl rfl ?_
        refine pn_iconst (q := 21) (v := nI 1) dX7_number_20 rfl (by decide) ?_
        refine pn_aload_n (q := 22) dX7_number_21 rfl rfl rfl ?_
        (refine pn_get (q := 25) fX7_103 dX7_number_22 rfl rfl rfl ?_)
        refine pn_eq (h' := _) (st' := .int (nI (tkP b)) :: _) rfl rfl ?_
        refine pn_idV (q := 28) (bc9 := 0) (bs9 := 0) (m_wrong adK d Y P a (heB b) c e f g h 1 (nI (tkP b)) (by show b.2.2.1 ≤ 4; omega)) lkX7_137 dX7_number_25 rfl rfl (hM_cl) (hM_cl) (Nat.le_of_ble_eq_true rfl) rfl rfl rfl rfl rfl rfl (by omega) (by omega) (by omega) (Nat.le_of_ble_eq_true rfl) ?_
        refine pn_iconst (q := 29) (v := nI 0) dX7_number_28 rfl (by decide) ?_
        refine pn_iret dX7_number_29 rfl ?_
        exact ⟨rfl, rfl⟩
    · cases hc4
  | true =>
    rw [hd] at CD
    have em : numM lo hi but b = (numV b, if (lo ≤ numV b ∧ numV b ≤ hi) ∧ nI (numV b) ≠ but then bAt b (numE b) else bWr (bAt b (numE b)) 2 (nI (tkP b))) := by unfold numM; rw [if_pos hf, hd]; rfl
    rw [em]
    have hv9 : numV b ≤ 100000 := dgW_le _ _ _ _ (by omega)
    have fin : pnWP mX7_number adK (d + 2) (pnIs (.inl (some (.int (nI (numV b))))) (hM Y P a (if (lo ≤ numV b ∧ numV b ≤ hi) ∧ nI (numV b) ≠ but then bAt b (numE b) else bWr (bAt b (numE b)) 2 (nI (tkP b))) c e f g h)) 0 0 (hM Y P a (bAt b (numE b)) c e f g h) [some (.ref 0), some (.int (nI lo)), some (.int (nI hi)), some (.int but), some (.int (nI (tkP b))), some (.int (nI (numV b)))] [] 90 := by
      have C0 := m_in adK d (nI (numV b)).toInt64 (nI lo).toInt64 (nI hi).toInt64
      rw [inL_range2 hlo hhi _ (by omega)] at C0
      have CW := m_wrong adK d Y P a (bAt b (numE b)) c e f g h 2 (nI (tkP b)) (by show b.2.2.1 ≤ 4; omega)
      by_cases h1 : lo ≤ numV b ∧ numV b ≤ hi
      · rw [decide_eq_true h1] at C0
        by_cases h2 : nI (numV b) = but
        · rw [if_neg (fun q => q.2 h2)]
          refine pn_iload (q := 92) dX7_number_90 rfl rfl ?_
          refine pn_i2l (q := 93) dX7_number_92 rfl ?_
          refine pn_iload_n (q := 94) dX7_number_93 rfl rfl ?_
          refine pn_i2l (q := 95) dX7_number_94 rfl ?_
          refine pn_iload_n (q := 96) dX7_number_95 rfl rfl ?_
          refine pn_i2l (q := 97) dX7_number_96 rfl ?_
          refine pn_roS1 (q := 100) (C0) lkX7_92 dX7_number_97 rfl rfl (pnSel_of (I := []) rfl rfl) (pnFree_none rfl) rfl (by omega) (Nat.le_of_ble_eq_true rfl) rfl ?_
          refine pn_beq (q := 103) (tgt := 109) dX7_number_100 (by decide) rfl (fun hc100 => ?_) (fun hc100 => ?_)
          · cases hc100
          · refine pn_iload (q := 105) dX7_number_103 rfl rfl ?_
            refine pn_iload_n (q := 106) dX7_number_105 rfl rfl ?_
            refine pn_icmp_ne (q := 109) (tgt := 116) dX7_number_106 (by decide) rfl (fun hc106 => ?_) (fun hc106 => ?_)
            · exact (hc106 h2).elim
            · refine pn_aload_n (q := 110) dX7_number_109 rfl rfl rfl ?_
              refine pn_iconst (q := 111) (v := nI 2) dX7_number_110 rfl (by decide) ?_
              refine pn_iload (q := 113) dX7_number_111 rfl rfl ?_
              refine pn_idV (q := 116) (bc9 := 0) (bs9 := 0) (CW) lkX7_137 dX7_number_113 rfl rfl (hM_cl) (hM_cl) (Nat.le_of_ble_eq_true rfl) rfl rfl rfl rfl rfl rfl (by omega) (by omega) (by omega) (Nat.le_of_ble_eq_true rfl) ?_
              refine pn_iload (q := 118) dX7_number_116 rfl rfl ?_
              refine pn_iret dX7_number_118 rfl ?_
              exact ⟨rfl, rfl⟩
        · rw [if_pos ⟨h1, h2⟩]
          refine pn_iload (q := 92) dX7_number_90 rfl rfl ?_
          refine pn_i2l (q := 93) dX7_number_92 rfl ?_
          refine pn_iload_n (q := 94) dX7_number_93 rfl rfl ?_
          refine pn_i2l (q := 95) dX7_number_94 rfl ?_
          refine pn_iload_n (q := 96) dX7_number_95 rfl rfl ?_
          refine pn_i2l (q := 97) dX7_number_96 rfl ?_
          refine pn_roS1 (q := 100) (C0) lkX7_92 dX7_number_97 rfl rfl (pnSel_of (I := []) rfl rfl) (pnFree_none rfl) rfl (by omega) (Nat.le_of_ble_eq_true rfl) rfl ?_
          refine pn_beq (q := 103) (tgt := 109) dX7_number_100 (by decide) rfl (fun hc100 => ?_) (fun hc100 => ?_)
          · cases hc100
          · refine pn_iload (q := 105) dX7_number_103 rfl rfl ?_
            refine pn_iload_n (q := 106) dX7_number_105 rfl rfl ?_
            refine pn_icmp_ne (q := 109) (tgt := 116) dX7_number_106 (by decide) rfl (fun hc106 => ?_) (fun hc106 => ?_)
            · refine pn_iload (q := 118) dX7_number_116 rfl rfl ?_
              refine pn_iret dX7_number_118 rfl ?_
              exact ⟨rfl, rfl⟩
            · exact (h2 hc106).elim
      · rw [decide_eq_false h1] at C0
        rw [if_neg (fun q => h1 q.1)]
        refine pn_iload (q := 92) dX7_number_90 rfl rfl ?_
        refine pn_i2l (q := 93) dX7_number_92 rfl ?_
        refine pn_iload_n (q := 94) dX7_number_93 rfl rfl ?_
        refine pn_i2l (q := 95) dX7_number_94 rfl ?_
        refine pn_iload_n (q := 96) dX7_number_95 rfl rfl ?_
        refine pn_i2l (q := 97) dX7_number_96 rfl ?_
        refine pn_roS1 (q := 100) (C0) lkX7_92 dX7_number_97 rfl rfl (pnSel_of (I := []) rfl rfl) (pnFree_none rfl) rfl (by omega) (Nat.le_of_ble_eq_true rfl) rfl ?_
        refine pn_beq (q := 103) (tgt := 109) dX7_number_100 (by decide) rfl (fun hc100 => ?_) (fun hc100 => ?_)
        · refine pn_aload_n (q := 110) dX7_number_109 rfl rfl rfl ?_
          refine pn_iconst (q := 111) (v := nI 2) dX7_number_110 rfl (by decide) ?_
          refine pn_iload (q := 113) dX7_number_111 rfl rfl ?_
          refine pn_idV (q := 116) (bc9 := 0) (bs9 := 0) (CW) lkX7_137 dX7_number_113 rfl rfl (hM_cl) (hM_cl) (Nat.le_of_ble_eq_true rfl) rfl rfl rfl rfl rfl rfl (by omega) (by omega) (by omega) (Nat.le_of_ble_eq_true rfl) ?_
          refine pn_iload (q := 118) dX7_number_116 rfl rfl ?_
          refine pn_iret dX7_number_118 rfl ?_
          exact ⟨rfl, rfl⟩
        · cases hc100
    have loop : ∀ (z p v : Nat), p + z = b.1 → dgE b.2.2.2.2.1 z p = numE b → dgW b.2.2.2.2.1 z p v = numV b → v ≤ 100000 → pnWP mX7_number adK (d + 2) (pnIs (.inl (some (.int (nI (numV b))))) (hM Y P a (if (lo ≤ numV b ∧ numV b ≤ hi) ∧ nI (numV b) ≠ but then bAt b (numE b) else bWr (bAt b (numE b)) 2 (nI (tkP b))) c e f g h)) 0 0 (hM Y P a (bAt b p) c e f g h) [some (.ref 0), some (.int (nI lo)), some (.int (nI hi)), some (.int but), some (.int (nI (tkP b))), some (.int (nI v))] [] 39 := by
      intro z
      induction z with
      | zero =>
        intro p v hp e1 e2 hv
        have e3 : p = numE b := e1
        have e4 : v = numV b := e2
        have CB : pnCt mX7_byteAt adK (d + 1) 0 0 [.ref 0, .int (nI p)] (hM Y P a (bAt b p) c e f g h) (pnIs (.inl (some (.int (byM b p)))) (hM Y P a (bAt b p) c e f g h)) := m_byteAt adK _ Y P a (bAt b p) c e f g h p (by omega) hb3
        have CI := m_isDigit adK (d + 1) (byM b p)
        rw [show dgB (byM b p) = false by unfold byM; rw [if_neg (by omega)]; rfl] at CI
        rw [← e3, ← e4] at fin
        rw [← e3, ← e4]
        refine pn_aload_n (q := 40) dX7_number_39 rfl rfl rfl ?_
        refine pn_aload_n (q := 41) dX7_number_40 rfl rfl rfl ?_
        (refine pn_get (q := 44) fX7_103 dX7_number_41 rfl rfl rfl ?_)
        refine pn_eq (h' := _) (st' := .int (nI p) :: _) rfl rfl ?_
        refine pn_idV (q := 47) (bc9 := 0) (bs9 := 0) (CB) lkX7_106 dX7_number_44 rfl rfl (hM_cl) (hM_cl) (Nat.le_of_ble_eq_true rfl) rfl rfl rfl rfl rfl rfl (by omega) (by omega) (by omega) (Nat.le_of_ble_eq_true rfl) ?_
        refine pn_roS1 (q := 50) (CI) lkX7_141 dX7_number_47 rfl rfl (pnSel_of (I := []) rfl rfl) (pnFree_none rfl) rfl (by omega) (Nat.le_of_ble_eq_true rfl) rfl ?_
        refine pn_beq (q := 53) (tgt := 90) dX7_number_50 (by decide) rfl (fun hc50 => ?_) (fun hc50 => ?_)
        · exact fin
        · cases hc50
      | succ z ih =>
        intro p v hp e1 e2 hv
        have CB : pnCt mX7_byteAt adK (d + 1) 0 0 [.ref 0, .int (nI p)] (hM Y P a (bAt b p) c e f g h) (pnIs (.inl (some (.int (byM b p)))) (hM Y P a (bAt b p) c e f g h)) := m_byteAt adK _ Y P a (bAt b p) c e f g h p (by omega) hb3
        have ebp : byM b p = b.2.2.2.2.1 p := if_pos (by omega)
        rw [ebp] at CB
        have CI := m_isDigit adK (d + 1) (b.2.2.2.2.1 p)
        have e5 : dgE b.2.2.2.2.1 (z + 1) p = if dgB (b.2.2.2.2.1 p) = true then dgE b.2.2.2.2.1 z (p + 1) else p := rfl
        have e6 : dgW b.2.2.2.2.1 (z + 1) p v = if dgB (b.2.2.2.2.1 p) = true then dgW b.2.2.2.2.1 z (p + 1) (min 100000 (10 * v + dgN (b.2.2.2.2.1 p))) else v := rfl
        cases hg : dgB (b.2.2.2.2.1 p) with
        | false =>
          rw [hg] at CI e5 e6
          have e3 : p = numE b := by rw [← e1, e5]; rfl
          have e4 : v = numV b := by rw [← e2, e6]; rfl
          rw [← e3, ← e4] at fin
          rw [← e3, ← e4]
          refine pn_aload_n (q := 40) dX7_number_39 rfl rfl rfl ?_
          refine pn_aload_n (q := 41) dX7_number_40 rfl rfl rfl ?_
          (refine pn_get (q := 44) fX7_103 dX7_number_41 rfl rfl rfl ?_)
          refine pn_eq (h' := _) (st' := .int (nI p) :: _) rfl rfl ?_
          refine pn_idV (q := 47) (bc9 := 0) (bs9 := 0) (CB) lkX7_106 dX7_number_44 rfl rfl (hM_cl) (hM_cl) (Nat.le_of_ble_eq_true rfl) rfl rfl rfl rfl rfl rfl (by omega) (by omega) (by omega) (Nat.le_of_ble_eq_true rfl) ?_
          refine pn_roS1 (q := 50) (CI) lkX7_141 dX7_number_47 rfl rfl (pnSel_of (I := []) rfl rfl) (pnFree_none rfl) rfl (by omega) (Nat.le_of_ble_eq_true rfl) rfl ?_
          refine pn_beq (q := 53) (tgt := 90) dX7_number_50 (by decide) rfl (fun hc50 => ?_) (fun hc50 => ?_)
          · exact fin
          · cases hc50
        | true =>
          rw [hg] at CI e5 e6
          obtain ⟨y, hy, ey⟩ := dgB_nat hg
          have edg : dgN (b.2.2.2.2.1 p) = y := by
            unfold dgN
            rw [ey, nI_clamp (by omega)]
            omega
          have CL := m_less adK d 100000 (10 * v + y) (by omega) (by omega)
          rw [ey] at CB CI
          have k9 := ih (p + 1) (min 100000 (10 * v + y)) (by omega) (by rw [← e1, e5]; rfl) (by rw [← e2, e6, edg]; rfl) (by omega)
          refine pn_aload_n (q := 40) dX7_number_39 rfl rfl rfl ?_
          refine pn_aload_n (q := 41) dX7_number_40 rfl rfl rfl ?_
          (refine pn_get (q := 44) fX7_103 dX7_number_41 rfl rfl rfl ?_)
          refine pn_eq (h' := _) (st' := .int (nI p) :: _) rfl rfl ?_
          refine pn_idV (q := 47) (bc9 := 0) (bs9 := 0) (CB) lkX7_106 dX7_number_44 rfl rfl (hM_cl) (hM_cl) (Nat.le_of_ble_eq_true rfl) rfl rfl rfl rfl rfl rfl (by omega) (by omega) (by omega) (Nat.le_of_ble_eq_true rfl) ?_
          refine pn_roS1 (q := 50) (CI) lkX7_141 dX7_number_47 rfl rfl (pnSel_of (I := []) rfl rfl) (pnFree_none rfl) rfl (by omega) (Nat.le_of_ble_eq_true rfl) rfl ?_
          refine pn_beq (q := 53) (tgt := 90) dX7_number_50 (by decide) rfl (fun hc50 => ?_) (fun hc50 => ?_)
          · cases hc50
          · refine pn_ldc (q := 55) pw_1239 dX7_number_53 rfl ?_; refine pn_eq (h' := _) (st' := .int (nI 100000) :: _) rfl rfl ?_
            refine pn_bipush (q := 57) (v := nI 10) dX7_number_55 rfl (by decide) ?_
            refine pn_iload (q := 59) dX7_number_57 rfl rfl ?_
            first | with_reducible refine pn_imulN (q := 60) dX7_number_59 rfl ?_ | refine pn_imul (q := 60) dX7_number_59 rfl ?_
            refine pn_aload_n (q := 61) dX7_number_60 rfl rfl rfl ?_
            refine pn_aload_n (q := 62) dX7_number_61 rfl rfl rfl ?_
            (refine pn_get (q := 65) fX7_103 dX7_number_62 rfl rfl rfl ?_)
            refine pn_eq (h' := _) (st' := .int (nI p) :: _) rfl rfl ?_
            refine pn_idV (q := 68) (bc9 := 0) (bs9 := 0) (CB) lkX7_106 dX7_number_65 rfl rfl (hM_cl) (hM_cl) (Nat.le_of_ble_eq_true rfl) rfl rfl rfl rfl rfl rfl (by omega) (by omega) (by omega) (Nat.le_of_ble_eq_true rfl) ?_
            refine pn_iaddN (q := 69) dX7_number_68 rfl ?_
            refine pn_bipush (q := 71) (v := nI 48) dX7_number_69 rfl (by decide) ?_
            refine pn_isubN (q := 72) dX7_number_71 rfl (by omega) ?_; rw [show 10 * v + (48 + y) - 48 = 10 * v + y by omega]
            refine pn_roS1 (q := 75) (CL) lkX7_69 dX7_number_72 rfl rfl (pnSel_of (I := []) rfl rfl) (pnFree_none rfl) rfl (by omega) (Nat.le_of_ble_eq_true rfl) rfl ?_
            refine pn_istore (q := 77) dX7_number_75 rfl (by decide) ?_
            refine pn_aload_n (q := 78) dX7_number_77 rfl rfl rfl ?_
            refine pn_dup (q := 79) dX7_number_78 rfl rfl ?_
            (refine pn_get (q := 82) fX7_103 dX7_number_79 rfl rfl rfl ?_)
            refine pn_eq (h' := _) (st' := .int (nI p) :: _) rfl rfl ?_
            refine pn_iconst (q := 83) (v := nI 1) dX7_number_82 rfl (by decide) ?_
            first | with_reducible refine pn_iaddN (q := 84) dX7_number_83 rfl ?_ | refine pn_iadd (q := 84) dX7_number_83 rfl ?_
            refine pn_put (q := 87) fX7_103 dX7_number_84 rfl rfl (Nat.le_of_ble_eq_true rfl) (pnF_int _) ?_
            refine pn_goto (q := 39) dX7_number_87 (by decide) ?_
            exact k9
    refine pn_aload_n (q := 1) dX7_number_0 rfl rfl rfl ?_
    refine pn_idV (q := 4) (bc9 := 0) (bs9 := 0) (CF) lkX7_116 dX7_number_1 rfl rfl (hM_cl) (hM_cl) (Nat.le_of_ble_eq_true rfl) rfl rfl rfl rfl rfl rfl (by omega) (by omega) (by omega) (Nat.le_of_ble_eq_true rfl) ?_
    refine pn_bne (q := 7) (tgt := 9) dX7_number_4 (by decide) rfl (fun hc4 => ?_) (fun hc4 => ?_)
    · refine pn_aload_n (q := 10) dX7_number_9 rfl rfl rfl ?_
      refine pn_idV (q := 13) (bc9 := 0) (bs9 := 0) (m_here adK d Y P a b c e f g h hb) lkX7_120 dX7_number_10 rfl rfl (hM_cl) (hM_cl) (Nat.le_of_ble_eq_true rfl) rfl rfl rfl rfl rfl rfl (by omega) (by omega) (by omega) (Nat.le_of_ble_eq_true rfl) ?_
      refine pn_roS1 (q := 16) (CD) lkX7_141 dX7_number_13 rfl rfl (pnSel_of (I := []) rfl rfl) (pnFree_none rfl) rfl (by omega) (Nat.le_of_ble_eq_true rfl) rfl ?_
      refine pn_bne (q := 19) (tgt := 30) dX7_number_16 (by decide) rfl (fun hc16 => ?_) (fun hc16 => ?_)
      · refine pn_aload_n (q := 31) dX7_number_30 rfl rfl rfl ?_
        (refine pn_get (q := 34) fX7_103 dX7_number_31 rfl rfl rfl ?_)
        refine pn_eq (h' := _) (st' := .int (nI (tkP b)) :: _) rfl rfl ?_
        refine pn_istore (q := 36) dX7_number_34 rfl (by decide) ?_
        refine pn_iconst (q := 37) (v := nI 0) dX7_number_36 rfl (by decide) ?_
        refine pn_istore (q := 39) dX7_number_37 rfl (by decide) ?_
        exact loop (b.1 - tkP b) (tkP b) 0 (by omega) rfl rfl (by omega)
      · cases hc16
    · cases hc4
set_option maxRecDepth 100000 in
theorem m_numberX (adK : Nat → Nat) (d : Nat) (Y : MN) (P : Nat → MN) (a : G0) (b : G1) (c : G3) (e : G4) (f : G5) (g : G6) (h : G7) (x y z : Int32) (hf : b.2.2.1 ≠ 0) (hf4 : b.2.2.1 ≤ 4) : pnCt mX7_number adK (d + 2) 0 0 [.ref 0, .int x, .int y, .int z] (hM Y P a b c e f g h) (pnIs (.inl (some (.int (nI 0)))) (hM Y P a b c e f g h)) := by
  refine pnCt_of (by decide) kX7_number (Nat.le_of_ble_eq_true rfl) rfl hM_cl (pnCS_b rfl) ?_
  have CF := m_fine adK d Y P a b c e f g h hf4
  rw [decide_eq_false hf] at CF
  refine pn_aload_n (q := 1) dX7_number_0 rfl rfl rfl ?_
  refine pn_idV (q := 4) (bc9 := 0) (bs9 := 0) (CF) lkX7_116 dX7_number_1 rfl rfl (hM_cl) (hM_cl) (Nat.le_of_ble_eq_true rfl) rfl rfl rfl rfl rfl rfl (by omega) (by omega) (by omega) (Nat.le_of_ble_eq_true rfl) ?_
  refine pn_bne (q := 7) (tgt := 9) dX7_number_4 (by decide) rfl (fun hc4 => ?_) (fun hc4 => ?_)
  · cases hc4
  · refine pn_iconst (q := 8) (v := nI 0) dX7_number_7 rfl (by decide) ?_
    refine pn_iret dX7_number_8 rfl ?_
    exact ⟨rfl, rfl⟩
theorem rdOk_at {b : G1} {x : Nat} (h : rdOk b) (hx : x ≤ b.1) : rdOk (bAt b x) := ⟨h.1, hx⟩
theorem rdOk_wr {b : G1} {w : Nat} {p : Int32} (h : rdOk b) : rdOk (bWr b w p) := by
  unfold bWr
  split
  · exact h
  · exact h
theorem ft_wr {b : G1} {w : Nat} {p : Int32} (h : b.2.2.1 ≤ 4) (hw : w ≤ 4) : (bWr b w p).2.2.1 ≤ 4 := by
  unfold bWr
  split
  · exact hw
  · exact h
theorem ft_wr0 {b : G1} {w : Nat} {p : Int32} (hw : w ≠ 0) : (bWr b w p).2.2.1 ≠ 0 := by
  unfold bWr
  split
  · exact hw
  · assumption
theorem numE_le {b : G1} (h : rdOk b) : tkP b ≤ numE b ∧ numE b ≤ b.1 := by
  unfold numE
  have := dgE_le b.2.2.2.2.1 (b.1 - tkP b) (tkP b)
  have := tkP_le h
  omega
theorem rdOk_num {lo hi : Nat} {but : Int32} {b : G1} (h : rdOk b) (h4 : b.2.2.1 ≤ 4) : rdOk (numM lo hi but b).2 ∧ (numM lo hi but b).2.2.2.1 ≤ 4 ∧ (numM lo hi but b).1 ≤ 100000 := by
  have h1 := numE_le h
  have h2 := tkP_le h
  unfold numM
  by_cases q1 : b.2.2.1 = 0
  · rw [if_pos q1]
    by_cases q2 : dgB (byM b (tkP b)) = true
    · rw [if_pos q2]
      by_cases q3 : (lo ≤ numV b ∧ numV b ≤ hi) ∧ nI (numV b) ≠ but
      · rw [if_pos q3]
        exact ⟨rdOk_at h h1.2, h4, dgW_le _ _ _ _ (by omega)⟩
      · rw [if_neg q3]
        exact ⟨rdOk_wr (rdOk_at h h1.2), ft_wr (b := bAt b (numE b)) h4 (by omega), dgW_le _ _ _ _ (by omega)⟩
    · rw [if_neg q2]
      exact ⟨rdOk_wr (rdOk_at h h2.2), ft_wr (b := bAt b (tkP b)) h4 (by omega), by show 0 ≤ 100000; omega⟩
  · rw [if_neg q1]
    exact ⟨h, h4, by show 0 ≤ 100000; omega⟩
/-- nodes, as many as stand there -/
def rnM (most : Nat) : Nat → G1 → G3 → G1 × G3
  | 0, b, c => (b, c)
  | z + 1, b, c => if b.2.2.1 = 0 then (if c.2 = 0 ∨ dgB (byM b (tkP b)) = true then (if c.2 = 5 then (bWr (heB b) 1 (nI (tkP b)), c) else if (numM 0 most (-1) (if c.2 = 0 then b else heB b)).2.2.2.1 = 0 then rnM most z (numM 0 most (-1) (if c.2 = 0 then b else heB b)).2 (upd c.1 c.2 (nI (numM 0 most (-1) (if c.2 = 0 then b else heB b)).1), c.2 + 1) else ((numM 0 most (-1) (if c.2 = 0 then b else heB b)).2, c)) else (heB b, c)) else (b, c)
set_option maxRecDepth 100000 in
theorem m_readsNodes (adK : Nat → Nat) (d : Nat) (Y : MN) (P : Nat → MN) (a : G0) (b : G1) (c : G3) (e : G4) (f : G5) (g : G6) (h : G7) (most : Nat) (hm : most ≤ 1000) (hb : rdOk b) (hf4 : b.2.2.1 ≤ 4) : pnCt mX7_readsNodes adK (d + 3) 0 0 [.ref 0, .int (nI most)] (hM Y P a b c e f g h) (pnIs (.inl none) (hM Y P a (rnM most 6 b (c.1, 0)).1 (rnM most 6 b (c.1, 0)).2 e f g h)) := by
  refine pnCt_of (by decide) kX7_readsNodes (Nat.le_of_ble_eq_true rfl) rfl hM_cl (pnCS_b rfl) ?_
  generalize hR : rnM most 6 b (c.1, 0) = R
  have loop : ∀ (z : Nat) (b : G1) (c : G3), c.2 + z = 6 → c.2 ≤ 5 → rdOk b → b.2.2.1 ≤ 4 → rnM most z b c = R → pnWP mX7_readsNodes adK (d + 3) (pnIs (.inl none) (hM Y P a R.1 R.2 e f g h)) 0 0 (hM Y P a b c e f g h) [some (.ref 0), some (.int (nI most))] [] 5 := by
    intro z
    induction z with
    | zero => intro b c hz hc; omega
    | succ z ih =>
      intro b c hz hc hb hf4 e9
      have CF := m_fine adK (d + 2) Y P a b c e f g h hf4
      by_cases hf : b.2.2.1 = 0
      · rw [decide_eq_true hf] at CF
        have hp9 := tkP_le hb
        have num : ∀ b0, (if c.2 = 0 then b else heB b) = b0 → c.2 ≠ 5 → (c.2 = 0 ∨ dgB (byM b (tkP b)) = true) → rdOk b0 → b0.2.2.1 = 0 → pnWP mX7_readsNodes adK (d + 3) (pnIs (.inl none) (hM Y P a R.1 R.2 e f g h)) 0 0 (hM Y P a b0 c e f g h) [some (.ref 0), some (.int (nI most))] [] 46 := by
          intro b0 e0 h5 hdd hb0 hf0
          have e8 : rnM most (z + 1) b c = if (numM 0 most (-1) b0).2.2.2.1 = 0 then rnM most z (numM 0 most (-1) b0).2 (upd c.1 c.2 (nI (numM 0 most (-1) b0).1), c.2 + 1) else ((numM 0 most (-1) b0).2, c) := by
            show (if b.2.2.1 = 0 then _ else _) = _
            rw [if_pos hf, if_pos hdd, if_neg h5, e0]
          have CN := m_number adK d Y P a b0 c e f g h 0 most (-1) (by omega) hm hb0 hf0
          obtain ⟨r1, r2, r3⟩ := rdOk_num (lo := 0) (hi := most) (but := -1) hb0 (by omega)
          generalize numM 0 most (-1) b0 = r at *
          have CG := m_fine adK (d + 2) Y P a r.2 c e f g h r2
          by_cases hr : r.2.2.2.1 = 0
          · rw [decide_eq_true hr] at CG
            rw [if_pos hr] at e8
            have k9 := ih r.2 (upd c.1 c.2 (nI r.1), c.2 + 1) (by show c.2 + 1 + z = 6; omega) (by show c.2 + 1 ≤ 5; omega) r1 r2 (by rw [← e8]; exact e9)
            refine pn_aload_n (q := 47) dX7_readsNodes_46 rfl rfl rfl ?_
            refine pn_iconst (q := 48) (v := nI 0) dX7_readsNodes_47 rfl (by decide) ?_
            refine pn_iload_n (q := 49) dX7_readsNodes_48 rfl rfl ?_
            refine pn_iconst (q := 50) (v := (-1)) dX7_readsNodes_49 rfl (by decide) ?_
            refine pn_idV (q := 53) (bc9 := 0) (bs9 := 0) (CN) lkX7_146 dX7_readsNodes_50 rfl rfl (hM_cl) (hM_cl) (Nat.le_of_ble_eq_true rfl) rfl rfl rfl rfl rfl rfl (by omega) (by omega) (by omega) (Nat.le_of_ble_eq_true rfl) ?_
            refine pn_istore_n (q := 54) dX7_readsNodes_53 rfl (by decide) ?_
            refine pn_aload_n (q := 55) dX7_readsNodes_54 rfl rfl rfl ?_
            refine pn_idV (q := 58) (bc9 := 0) (bs9 := 0) (CG) lkX7_116 dX7_readsNodes_55 rfl rfl (hM_cl) (hM_cl) (Nat.le_of_ble_eq_true rfl) rfl rfl rfl rfl rfl rfl (by omega) (by omega) (by omega) (Nat.le_of_ble_eq_true rfl) ?_
            refine pn_bne (q := 61) (tgt := 62) dX7_readsNodes_58 (by decide) rfl (fun hc58 => ?_) (fun hc58 => ?_)
            · refine pn_aload_n (q := 63) dX7_readsNodes_62 rfl rfl rfl ?_
              refine pn_get (q := 66) fX7_32 dX7_readsNodes_63 rfl rfl rfl ?_
              refine pn_aload_n (q := 67) dX7_readsNodes_66 rfl rfl rfl ?_
              refine pn_get (q := 70) fX7_85 dX7_readsNodes_67 rfl rfl rfl ?_
              refine pn_iload_n (q := 71) dX7_readsNodes_70 rfl rfl ?_
              refine pn_iast (q := 72) dX7_readsNodes_71 rfl rfl rfl (by omega) (by first | decide | omega) ?_
              refine pn_aload_n (q := 73) dX7_readsNodes_72 rfl rfl rfl ?_
              refine pn_dup (q := 74) dX7_readsNodes_73 rfl rfl ?_
              refine pn_get (q := 77) fX7_85 dX7_readsNodes_74 rfl rfl rfl ?_
              refine pn_iconst (q := 78) (v := nI 1) dX7_readsNodes_77 rfl (by decide) ?_
              first | with_reducible refine pn_iaddN (q := 79) dX7_readsNodes_78 rfl ?_ | refine pn_iadd (q := 79) dX7_readsNodes_78 rfl ?_
              refine pn_put (q := 82) fX7_85 dX7_readsNodes_79 rfl rfl (Nat.le_of_ble_eq_true rfl) (pnF_int _) ?_
              refine pn_goto (q := 5) dX7_readsNodes_82 (by decide) ?_
              exact pn_take 2 k9
            · cases hc58
          · rw [decide_eq_false hr] at CG
            rw [if_neg hr, e9] at e8
            rw [e8]
            refine pn_aload_n (q := 47) dX7_readsNodes_46 rfl rfl rfl ?_
            refine pn_iconst (q := 48) (v := nI 0) dX7_readsNodes_47 rfl (by decide) ?_
            refine pn_iload_n (q := 49) dX7_readsNodes_48 rfl rfl ?_
            refine pn_iconst (q := 50) (v := (-1)) dX7_readsNodes_49 rfl (by decide) ?_
            refine pn_idV (q := 53) (bc9 := 0) (bs9 := 0) (CN) lkX7_146 dX7_readsNodes_50 rfl rfl (hM_cl) (hM_cl) (Nat.le_of_ble_eq_true rfl) rfl rfl rfl rfl rfl rfl (by omega) (by omega) (by omega) (Nat.le_of_ble_eq_true rfl) ?_
            refine pn_istore_n (q := 54) dX7_readsNodes_53 rfl (by decide) ?_
            refine pn_aload_n (q := 55) dX7_readsNodes_54 rfl rfl rfl ?_
            refine pn_idV (q := 58) (bc9 := 0) (bs9 := 0) (CG) lkX7_116 dX7_readsNodes_55 rfl rfl (hM_cl) (hM_cl) (Nat.le_of_ble_eq_true rfl) rfl rfl rfl rfl rfl rfl (by omega) (by omega) (by omega) (Nat.le_of_ble_eq_true rfl) ?_
            refine pn_bne (q := 61) (tgt := 62) dX7_readsNodes_58 (by decide) rfl (fun hc58 => ?_) (fun hc58 => ?_)
            · cases hc58
            · refine pn_vret dX7_readsNodes_61 rfl ?_
              exact ⟨rfl, rfl⟩
        by_cases h0 : c.2 = 0
        · have k9 := num b (if_pos h0) (by omega) (Or.inl h0) hb hf
          refine pn_aload_n (q := 6) dX7_readsNodes_5 rfl rfl rfl ?_
          refine pn_idV (q := 9) (bc9 := 0) (bs9 := 0) (CF) lkX7_116 dX7_readsNodes_6 rfl rfl (hM_cl) (hM_cl) (Nat.le_of_ble_eq_true rfl) rfl rfl rfl rfl rfl rfl (by omega) (by omega) (by omega) (Nat.le_of_ble_eq_true rfl) ?_
          refine pn_beq (q := 12) (tgt := 85) dX7_readsNodes_9 (by decide) rfl (fun hc9 => ?_) (fun hc9 => ?_)
          · cases hc9
          · refine pn_aload_n (q := 13) dX7_readsNodes_12 rfl rfl rfl ?_
            refine pn_get (q := 16) fX7_85 dX7_readsNodes_13 rfl rfl rfl ?_
            first | refine pn_zeq (q := 19) (tgt := 29) dX7_readsNodes_16 (by decide) rfl (by omega) (fun hc16 => ?_) (fun hc16 => ?_) | refine pn_if_eq (q := 19) (tgt := 29) dX7_readsNodes_16 (by decide) rfl (fun hc16 => ?_) (fun hc16 => ?_)
            · refine pn_aload_n (q := 30) dX7_readsNodes_29 rfl rfl rfl ?_
              refine pn_get (q := 33) fX7_85 dX7_readsNodes_30 rfl rfl rfl ?_
              refine pn_iconst (q := 34) (v := nI 5) dX7_readsNodes_33 rfl (by decide) ?_
              first | refine pn_nne (q := 37) (tgt := 46) dX7_readsNodes_34 (by decide) rfl (by omega) (by omega) (fun hc34 => ?_) (fun hc34 => ?_) | refine pn_icmp_ne (q := 37) (tgt := 46) dX7_readsNodes_34 (by decide) rfl (fun hc34 => ?_) (fun hc34 => ?_)
              · exact k9
              · omega
            · omega
        · have CD := m_isDigit adK (d + 2) (byM b (tkP b))
          have CH := m_here adK (d + 1) Y P a b c e f g h hb
          cases hd : dgB (byM b (tkP b)) with
          | false =>
            rw [hd] at CD
            have e8 : rnM most (z + 1) b c = (heB b, c) := by
              show (if b.2.2.1 = 0 then _ else _) = _
              rw [if_pos hf, if_neg (by rintro (q | q); exact h0 q; rw [hd] at q; cases q)]
            rw [e9] at e8
            rw [e8]
            refine pn_aload_n (q := 6) dX7_readsNodes_5 rfl rfl rfl ?_
            refine pn_idV (q := 9) (bc9 := 0) (bs9 := 0) (CF) lkX7_116 dX7_readsNodes_6 rfl rfl (hM_cl) (hM_cl) (Nat.le_of_ble_eq_true rfl) rfl rfl rfl rfl rfl rfl (by omega) (by omega) (by omega) (Nat.le_of_ble_eq_true rfl) ?_
            refine pn_beq (q := 12) (tgt := 85) dX7_readsNodes_9 (by decide) rfl (fun hc9 => ?_) (fun hc9 => ?_)
            · cases hc9
            · refine pn_aload_n (q := 13) dX7_readsNodes_12 rfl rfl rfl ?_
              refine pn_get (q := 16) fX7_85 dX7_readsNodes_13 rfl rfl rfl ?_
              first | refine pn_zeq (q := 19) (tgt := 29) dX7_readsNodes_16 (by decide) rfl (by omega) (fun hc16 => ?_) (fun hc16 => ?_) | refine pn_if_eq (q := 19) (tgt := 29) dX7_readsNodes_16 (by decide) rfl (fun hc16 => ?_) (fun hc16 => ?_)
              · omega
              · refine pn_aload_n (q := 20) dX7_readsNodes_19 rfl rfl rfl ?_
                refine pn_idV (q := 23) (bc9 := 0) (bs9 := 0) (CH) lkX7_120 dX7_readsNodes_20 rfl rfl (hM_cl) (hM_cl) (Nat.le_of_ble_eq_true rfl) rfl rfl rfl rfl rfl rfl (by omega) (by omega) (by omega) (Nat.le_of_ble_eq_true rfl) ?_
                refine pn_roS1 (q := 26) (CD) lkX7_141 dX7_readsNodes_23 rfl rfl (pnSel_of (I := []) rfl rfl) (pnFree_none rfl) rfl (by omega) (Nat.le_of_ble_eq_true rfl) rfl ?_
                refine pn_beq (q := 29) (tgt := 85) dX7_readsNodes_26 (by decide) rfl (fun hc26 => ?_) (fun hc26 => ?_)
                · refine pn_vret dX7_readsNodes_85 rfl ?_
                  exact ⟨rfl, rfl⟩
                · cases hc26
          | true =>
            rw [hd] at CD
            by_cases h5 : c.2 = 5
            · have e8 : rnM most (z + 1) b c = (bWr (heB b) 1 (nI (tkP b)), c) := by
                show (if b.2.2.1 = 0 then _ else _) = _
                rw [if_pos hf, if_pos (Or.inr hd), if_pos h5]
              rw [e9] at e8
              rw [e8]
              have q1 : (bWr (heB b) 1 (nI (tkP b))).2.2.1 ≠ 0 := ft_wr0 (by omega)
              have q2 : (bWr (heB b) 1 (nI (tkP b))).2.2.1 ≤ 4 := ft_wr (by show b.2.2.1 ≤ 4; omega) (by omega)
              have CG := m_fine adK (d + 2) Y P a (bWr (heB b) 1 (nI (tkP b))) c e f g h q2
              rw [decide_eq_false q1] at CG
              refine pn_aload_n (q := 6) dX7_readsNodes_5 rfl rfl rfl ?_
              refine pn_idV (q := 9) (bc9 := 0) (bs9 := 0) (CF) lkX7_116 dX7_readsNodes_6 rfl rfl (hM_cl) (hM_cl) (Nat.le_of_ble_eq_true rfl) rfl rfl rfl rfl rfl rfl (by omega) (by omega) (by omega) (Nat.le_of_ble_eq_true rfl) ?_
              refine pn_beq (q := 12) (tgt := 85) dX7_readsNodes_9 (by decide) rfl (fun hc9 => ?_) (fun hc9 => ?_)
              · cases hc9
              · refine pn_aload_n (q := 13) dX7_readsNodes_12 rfl rfl rfl ?_
                refine pn_get (q := 16) fX7_85 dX7_readsNodes_13 rfl rfl rfl ?_
                first | refine pn_zeq (q := 19) (tgt := 29) dX7_readsNodes_16 (by decide) rfl (by omega) (fun hc16 => ?_) (fun hc16 => ?_) | refine pn_if_eq (q := 19) (tgt := 29) dX7_readsNodes_16 (by decide) rfl (fun hc16 => ?_) (fun hc16 => ?_)
                · omega
                · refine pn_aload_n (q := 20) dX7_readsNodes_19 rfl rfl rfl ?_
                  refine pn_idV (q := 23) (bc9 := 0) (bs9 := 0) (CH) lkX7_120 dX7_readsNodes_20 rfl rfl (hM_cl) (hM_cl) (Nat.le_of_ble_eq_true rfl) rfl rfl rfl rfl rfl rfl (by omega) (by omega) (by omega) (Nat.le_of_ble_eq_true rfl) ?_
                  refine pn_roS1 (q := 26) (CD) lkX7_141 dX7_readsNodes_23 rfl rfl (pnSel_of (I := []) rfl rfl) (pnFree_none rfl) rfl (by omega) (Nat.le_of_ble_eq_true rfl) rfl ?_
                  refine pn_beq (q := 29) (tgt := 85) dX7_readsNodes_26 (by decide) rfl (fun hc26 => ?_) (fun hc26 => ?_)
                  · cases hc26
                  · refine pn_aload_n (q := 30) dX7_readsNodes_29 rfl rfl rfl ?_
                    refine pn_get (q := 33) fX7_85 dX7_readsNodes_30 rfl rfl rfl ?_
                    refine pn_iconst (q := 34) (v := nI 5) dX7_readsNodes_33 rfl (by decide) ?_
                    first | refine pn_nne (q := 37) (tgt := 46) dX7_readsNodes_34 (by decide) rfl (by omega) (by omega) (fun hc34 => ?_) (fun hc34 => ?_) | refine pn_icmp_ne (q := 37) (tgt := 46) dX7_readsNodes_34 (by decide) rfl (fun hc34 => ?_) (fun hc34 => ?_)
                    · omega
                    · refine pn_aload_n (q := 38) dX7_readsNodes_37 rfl rfl rfl ?_
                      refine pn_iconst (q := 39) (v := nI 1) dX7_readsNodes_38 rfl (by decide) ?_
                      refine pn_aload_n (q := 40) dX7_readsNodes_39 rfl rfl rfl ?_
                      (refine pn_get (q := 43) fX7_103 dX7_readsNodes_40 rfl rfl rfl ?_)
                      refine pn_eq (h' := _) (st' := .int (nI (tkP b)) :: _) rfl rfl ?_
                      refine pn_idV (q := 46) (bc9 := 0) (bs9 := 0) (m_wrong adK (d + 2) Y P a (heB b) c e f g h 1 (nI (tkP b)) (by show b.2.2.1 ≤ 4; omega)) lkX7_137 dX7_readsNodes_43 rfl rfl (hM_cl) (hM_cl) (Nat.le_of_ble_eq_true rfl) rfl rfl rfl rfl rfl rfl (by omega) (by omega) (by omega) (Nat.le_of_ble_eq_true rfl) ?_
                      refine pn_aload_n (q := 47) dX7_readsNodes_46 rfl rfl rfl ?_
                      refine pn_iconst (q := 48) (v := nI 0) dX7_readsNodes_47 rfl (by decide) ?_
                      refine pn_iload_n (q := 49) dX7_readsNodes_48 rfl rfl ?_
                      refine pn_iconst (q := 50) (v := (-1)) dX7_readsNodes_49 rfl (by decide) ?_
                      refine pn_idV (q := 53) (bc9 := 0) (bs9 := 0) (m_numberX adK d Y P a (bWr (heB b) 1 (nI (tkP b))) c e f g h (nI 0) (nI most) (-1) q1 q2) lkX7_146 dX7_readsNodes_50 rfl rfl (hM_cl) (hM_cl) (Nat.le_of_ble_eq_true rfl) rfl rfl rfl rfl rfl rfl (by omega) (by omega) (by omega) (Nat.le_of_ble_eq_true rfl) ?_
                      refine pn_istore_n (q := 54) dX7_readsNodes_53 rfl (by decide) ?_
                      refine pn_aload_n (q := 55) dX7_readsNodes_54 rfl rfl rfl ?_
                      refine pn_idV (q := 58) (bc9 := 0) (bs9 := 0) (CG) lkX7_116 dX7_readsNodes_55 rfl rfl (hM_cl) (hM_cl) (Nat.le_of_ble_eq_true rfl) rfl rfl rfl rfl rfl rfl (by omega) (by omega) (by omega) (Nat.le_of_ble_eq_true rfl) ?_
                      refine pn_bne (q := 61) (tgt := 62) dX7_readsNodes_58 (by decide) rfl (fun hc58 => ?_) (fun hc58 => ?_)
                      · cases hc58
                      · refine pn_vret dX7_readsNodes_61 rfl ?_
                        exact ⟨rfl, rfl⟩
            · have k9 := num (heB b) (if_neg h0) h5 (Or.inr hd) (rdOk_at hb hp9.2) hf
              refine pn_aload_n (q := 6) dX7_readsNodes_5 rfl rfl rfl ?_
              refine pn_idV (q := 9) (bc9 := 0) (bs9 := 0) (CF) lkX7_116 dX7_readsNodes_6 rfl rfl (hM_cl) (hM_cl) (Nat.le_of_ble_eq_true rfl) rfl rfl rfl rfl rfl rfl (by omega) (by omega) (by omega) (Nat.le_of_ble_eq_true rfl) ?_
              refine pn_beq (q := 12) (tgt := 85) dX7_readsNodes_9 (by decide) rfl (fun hc9 => ?_) (fun hc9 => ?_)
              · cases hc9
              · refine pn_aload_n (q := 13) dX7_readsNodes_12 rfl rfl rfl ?_
                refine pn_get (q := 16) fX7_85 dX7_readsNodes_13 rfl rfl rfl ?_
                first | refine pn_zeq (q := 19) (tgt := 29) dX7_readsNodes_16 (by decide) rfl (by omega) (fun hc16 => ?_) (fun hc16 => ?_) | refine pn_if_eq (q := 19) (tgt := 29) dX7_readsNodes_16 (by decide) rfl (fun hc16 => ?_) (fun hc16 => ?_)
                · omega
                · refine pn_aload_n (q := 20) dX7_readsNodes_19 rfl rfl rfl ?_
                  refine pn_idV (q := 23) (bc9 := 0) (bs9 := 0) (CH) lkX7_120 dX7_readsNodes_20 rfl rfl (hM_cl) (hM_cl) (Nat.le_of_ble_eq_true rfl) rfl rfl rfl rfl rfl rfl (by omega) (by omega) (by omega) (Nat.le_of_ble_eq_true rfl) ?_
                  refine pn_roS1 (q := 26) (CD) lkX7_141 dX7_readsNodes_23 rfl rfl (pnSel_of (I := []) rfl rfl) (pnFree_none rfl) rfl (by omega) (Nat.le_of_ble_eq_true rfl) rfl ?_
                  refine pn_beq (q := 29) (tgt := 85) dX7_readsNodes_26 (by decide) rfl (fun hc26 => ?_) (fun hc26 => ?_)
                  · cases hc26
                  · refine pn_aload_n (q := 30) dX7_readsNodes_29 rfl rfl rfl ?_
                    refine pn_get (q := 33) fX7_85 dX7_readsNodes_30 rfl rfl rfl ?_
                    refine pn_iconst (q := 34) (v := nI 5) dX7_readsNodes_33 rfl (by decide) ?_
                    first | refine pn_nne (q := 37) (tgt := 46) dX7_readsNodes_34 (by decide) rfl (by omega) (by omega) (fun hc34 => ?_) (fun hc34 => ?_) | refine pn_icmp_ne (q := 37) (tgt := 46) dX7_readsNodes_34 (by decide) rfl (fun hc34 => ?_) (fun hc34 => ?_)
                    · exact k9
                    · omega
      · rw [decide_eq_false hf] at CF
        have e8 : rnM most (z + 1) b c = (b, c) := if_neg hf
        rw [e9] at e8
        rw [e8]
        refine pn_aload_n (q := 6) dX7_readsNodes_5 rfl rfl rfl ?_
        refine pn_idV (q := 9) (bc9 := 0) (bs9 := 0) (CF) lkX7_116 dX7_readsNodes_6 rfl rfl (hM_cl) (hM_cl) (Nat.le_of_ble_eq_true rfl) rfl rfl rfl rfl rfl rfl (by omega) (by omega) (by omega) (Nat.le_of_ble_eq_true rfl) ?_
        refine pn_beq (q := 12) (tgt := 85) dX7_readsNodes_9 (by decide) rfl (fun hc9 => ?_) (fun hc9 => ?_)
        · refine pn_vret dX7_readsNodes_85 rfl ?_
          exact ⟨rfl, rfl⟩
        · cases hc9
  have k0 := loop 6 b (c.1, 0) rfl (by show 0 ≤ 5; omega) hb hf4 hR
  refine pn_aload_n (q := 1) dX7_readsNodes_0 rfl rfl rfl ?_
  refine pn_iconst (q := 2) (v := nI 0) dX7_readsNodes_1 rfl (by decide) ?_
  refine pn_put (q := 5) fX7_85 dX7_readsNodes_2 rfl rfl (Nat.le_of_ble_eq_true rfl) (pnF_int _) ?_
  exact k0
