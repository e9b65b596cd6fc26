/-! differences -/
theorem ahN_shift (a b m : Nat) (hb : b ≤ 30) (hm : 1 ≤ m) : (a + m * 31 - b) % m = ahN a b m := by
  unfold ahN
  have h1 : ((a + m * 31 - b : Nat) : Int) = ((a : Int) - b) + m * 31 := by omega
  have h2 : (((a + m * 31 - b) % m : Nat) : Int) = ((a : Int) - b) % m := by
    rw [Int.natCast_emod, h1, Int.add_mul_emod_self_left]
  omega
theorem dfN_sym (a b m : Nat) (hm : 1 ≤ m) : dfN a b m = dfN b a m := by
  unfold dfN
  have h1 := ahN_lt a b m hm
  have h2 := ahN_lt b a m hm
  have h3 : ahN b a m = (m - ahN a b m) % m := by
    unfold ahN at *
    have k1 := Int.emod_nonneg ((a : Int) - b) (show (m : Int) ≠ 0 by omega)
    have k2 := Int.emod_nonneg ((b : Int) - a) (show (m : Int) ≠ 0 by omega)
    have k3 : ((((m - (((a : Int) - b) % m).toNat) % m : Nat)) : Int) = ((b : Int) - a) % m := by
      rw [Int.natCast_emod, show ((m - (((a : Int) - b) % m).toNat : Nat) : Int) = (m : Int) - ((a : Int) - b) % m by omega]
      have k4 := Int.emod_add_mul_ediv ((a : Int) - b) m
      rw [show (m : Int) - ((a : Int) - b) % m = ((b : Int) - a) + m * (1 + ((a : Int) - b) / m) by rw [Int.mul_add, Int.mul_one]; omega, Int.add_mul_emod_self_left]
    omega
  have h4 : (m - ahN b a m) % m = ahN a b m := by
    rw [h3]
    by_cases h0 : ahN a b m = 0
    · rw [h0, Nat.sub_zero, Nat.mod_self, Nat.sub_zero, Nat.mod_self]
    · rw [Nat.mod_eq_of_lt (show m - ahN a b m < m by omega), show m - (m - ahN a b m) = ahN a b m by omega, Nat.mod_eq_of_lt h1]
  rw [h4, ← h3]
  omega
set_option maxRecDepth 100000 in
theorem m_difference (adK : Nat → Nat) (d : Nat) (a b m : Nat) (ha : a ≤ 30) (hb : b ≤ 30) (hm : 1 ≤ m) (hm2 : m ≤ 31) : pnCt mX7_difference adK (d + 1) 0 0 [.int (nI a), .int (nI b), .int (nI m)] [] (pnIs (.inl (some (.int (nI (dfN a b m))))) []) := by
  refine pnCt_of (by decide) kX7_difference (Nat.le_of_ble_eq_true rfl) rfl (pnCH_b rfl) (pnCS_b rfl) ?_
  have h1 := ahN_lt a b m hm
  have e1 := ahN_shift a b m hb hm
  have e2 : nI a - nI b + nI (m * 31) = nI (a + m * 31 - b) := by
    apply Int32.toInt_inj.mp
    rw [Int32.toInt_add, pk_sub_toInt (by omega) (by omega), nI_toInt (by omega), nI_toInt (by omega)]
    rw [show ((a : Int) - b + ((m * 31 : Nat) : Int)) = ((a + m * 31 - b : Nat) : Int) by omega]
    rw [Int.bmod_eq_of_le (by omega) (by omega)]
  have h3 : (m - ahN a b m) % m < m := Nat.mod_lt _ hm
  have CL := m_less adK d (ahN a b m) ((m - ahN a b m) % m) (by omega) (by omega)
  refine pn_iload_n (q := 1) dX7_difference_0 rfl rfl ?_
  refine pn_iload_n (q := 2) dX7_difference_1 rfl rfl ?_
  refine pn_isub (q := 3) dX7_difference_2 rfl ?_
  refine pn_iload_n (q := 4) dX7_difference_3 rfl rfl ?_
  refine pn_bipush (q := 6) (v := nI 31) dX7_difference_4 rfl (by decide) ?_
  first | with_reducible refine pn_imulN (q := 7) dX7_difference_6 rfl ?_ | refine pn_imul (q := 7) dX7_difference_6 rfl ?_
  refine pn_iadd (q := 8) dX7_difference_7 rfl ?_; rw [e2]
  refine pn_iload_n (q := 9) dX7_difference_8 rfl rfl ?_
  refine pn_iremN (q := 10) dX7_difference_9 rfl ⟨by omega, by omega, by omega⟩ ?_; rw [e1]
  refine pn_istore_n (q := 11) dX7_difference_10 rfl (by decide) ?_
  refine pn_iload_n (q := 12) dX7_difference_11 rfl rfl ?_
  refine pn_iload_n (q := 13) dX7_difference_12 rfl rfl ?_
  refine pn_iload_n (q := 14) dX7_difference_13 rfl rfl ?_
  first | with_reducible refine pn_isubN (q := 15) dX7_difference_14 rfl (by omega) ?_ | refine pn_isub (q := 15) dX7_difference_14 rfl ?_
  refine pn_iload_n (q := 16) dX7_difference_15 rfl rfl ?_
  refine pn_iremN (q := 17) dX7_difference_16 rfl (by omega) ?_
  refine pn_roS1 (q := 20) (CL) lkX7_69 dX7_difference_17 rfl rfl (pnSel_of (I := []) rfl rfl) (pnFree_none rfl) rfl (by omega) (Nat.le_of_ble_eq_true rfl) rfl ?_
  refine pn_iret dX7_difference_20 rfl ?_
  exact ⟨rfl, rfl⟩
/-- the bases of the reference's row are those of the class's row -/
def bsOk (Y : MN) (bN : Nat → Nat) : Prop := Y.2.2.2.2.2.1 ≤ 4 ∧ (∀ j, bN j ≤ 30) ∧ ∀ b, b < Y.2.2.2.2.2.1 → Y.2.2.2.2.2.2.2 (6 * b) = plN Y.2.2.1 Y.2.2.2.1 ∧ ∀ i, i < plN Y.2.2.1 Y.2.2.2.1 → Y.2.2.2.2.2.2.2 (6 * b + 1 + i) = bN (b * 5 + i)
set_option maxRecDepth 100000 in
theorem m_coverOf (adK : Nat → Nat) (d : Nat) (Y : MN) (P : Nat → MN) (a : G0) (b : G1) (c : G3) (e : G4) (f : G5) (g : G6) (h : G7) (bN : Nat → Nat) (m q : Nat) (hS : shOk Y.2.2.1 Y.2.2.2.1) (hB : bsOk Y bN) (hm : 1 ≤ m) (hm2 : m ≤ 31) (hq : q ≤ 1000) : pnCt mX7_coverOf adK (d + 2) 0 0 [.ref 0, .int (nI m), .int (nI q)] (hM Y P a b c e f g h) (pnIs (.inl (some (.int (nI (cvN Y.2.2.1 Y.2.2.2.1 bN m q Y.2.2.2.2.2.1))))) (hM Y P a b c e f g h)) := by
  refine pnCt_of (by decide) kX7_coverOf (Nat.le_of_ble_eq_true rfl) rfl hM_cl (pnCS_b rfl) ?_
  obtain ⟨hbc, hbN, hB2⟩ := hB
  obtain ⟨b1, b2, b3, b4, b5, b6⟩ := shOk_b hS
  have hs3 : Y.2.2.1 ≤ 3 := by unfold shOk at hS; omega
  have hle : ∀ u, u ≤ 4 → cvN Y.2.2.1 Y.2.2.2.1 bN m q u ≤ 20 := fun u hb => by
    have h1 := cvN_le Y.2.2.1 Y.2.2.2.1 bN m q u
    have h2 : u * Y.2.2.2.1 ≤ 4 * 5 := Nat.mul_le_mul hb b3
    omega
  have hdl : ∀ x y, dfN x y m < m := fun x y => Nat.lt_of_le_of_lt (Nat.min_le_left _ _) (ahN_lt _ _ _ hm)
  have inner : ∀ u, u < Y.2.2.2.2.2.1 → (pnWP mX7_coverOf adK (d + 2) (pnIs (.inl (some (.int (nI (cvN Y.2.2.1 Y.2.2.2.1 bN m q Y.2.2.2.2.2.1))))) (hM Y P a b c e f g h)) 0 0 (hM Y P a b c e f g h) [some (.ref 0), some (.int (nI m)), some (.int (nI q)), some (.int (nI (cvN Y.2.2.1 Y.2.2.2.1 bN m q (u + 1)))), some (.int (nI u))] [] 150) →
      ∀ (z j : Nat), j + 1 + z = plN Y.2.2.1 Y.2.2.2.1 → pnWP mX7_coverOf adK (d + 2) (pnIs (.inl (some (.int (nI (cvN Y.2.2.1 Y.2.2.2.1 bN m q Y.2.2.2.2.2.1))))) (hM Y P a b c e f g h)) 0 0 (hM Y P a b c e f g h) [some (.ref 0), some (.int (nI m)), some (.int (nI q)), some (.int (nI (cvN Y.2.2.1 Y.2.2.2.1 bN m q u + cvI Y.2.2.1 Y.2.2.2.1 bN m q u j))), some (.int (nI u)), some (.int (nI (plN Y.2.2.1 Y.2.2.2.1))), some (.int (nI (j + 1)))] [] 29 := by
    intro u hb kk z
    have hcb := hle u (by omega)
    obtain ⟨l1, l2⟩ := hB2 u hb
    induction z with
    | zero =>
      intro j hj
      have hci := cvI_le Y.2.2.1 Y.2.2.2.1 bN m q u j
      by_cases hcl : clN Y.2.2.1 = true
      · have hpl : plN Y.2.2.1 Y.2.2.2.1 = Y.2.2.2.1 := if_pos hcl
        have hsh : Y.2.2.1 = 0 ∨ Y.2.2.1 = 3 := by
          unfold clN at hcl
          simp at hcl
          exact hcl
        have C0 := m_baseNode adK d Y P a b c e f g h u 0 (by omega) (by omega)
        have C1 := m_baseNode adK d Y P a b c e f g h u j (by omega) (by omega)
        rw [l2 0 (by omega)] at C0
        rw [l2 j (by omega)] at C1
        have n1 := hbN (u * 5 + 0)
        have n2 := hbN (u * 5 + j)
        have CD := m_difference adK d (bN (u * 5 + 0)) (bN (u * 5 + j)) m n1 n2 hm hm2
        have hdd := hdl (bN (u * 5 + 0)) (bN (u * 5 + j))
        have ek : Y.2.2.2.1 = j + 1 := by omega
        have e2 : cvN Y.2.2.1 Y.2.2.2.1 bN m q (u + 1) = cvN Y.2.2.1 Y.2.2.2.1 bN m q u + (if dfN (bN (u * 5 + 0)) (bN (u * 5 + j)) m = q then cvI Y.2.2.1 Y.2.2.2.1 bN m q u j + 1 else cvI Y.2.2.1 Y.2.2.2.1 bN m q u j) := by
          show cvN Y.2.2.1 Y.2.2.2.1 bN m q u + cvI Y.2.2.1 Y.2.2.2.1 bN m q u Y.2.2.2.1 = _
          congr 1
          rw [show cvI Y.2.2.1 Y.2.2.2.1 bN m q u Y.2.2.2.1 = cvI Y.2.2.1 Y.2.2.2.1 bN m q u (j + 1) by rw [← ek]]
          show (if dfN (bN (u * 5 + lsN Y.2.2.1 j)) (bN (u * 5 + leN Y.2.2.1 Y.2.2.2.1 j)) m = q then cvI Y.2.2.1 Y.2.2.2.1 bN m q u j + 1 else cvI Y.2.2.1 Y.2.2.2.1 bN m q u j) = _
          rw [show lsN Y.2.2.1 j = j from if_neg (by omega), show leN Y.2.2.1 Y.2.2.2.1 j = 0 from if_pos ⟨hcl, ek.symm⟩, dfN_sym _ _ m hm]
        refine pn_iload (q := 31) dX7_coverOf_29 rfl rfl ?_
        refine pn_iload (q := 33) dX7_coverOf_31 rfl rfl ?_
        first | refine pn_nge (q := 36) (tgt := 93) dX7_coverOf_33 (by decide) rfl (by omega) (by omega) (fun hc33 => ?_) (fun hc33 => ?_) | refine pn_icmp_ge (q := 36) (tgt := 93) dX7_coverOf_33 (by decide) rfl (fun hc33 => ?_) (fun hc33 => ?_)
        · refine pn_aload_n (q := 94) dX7_coverOf_93 rfl rfl rfl ?_
          refine pn_get (q := 97) fX7_20 dX7_coverOf_94 rfl rfl rfl ?_
          refine pn_iconst (q := 98) (v := nI 1) dX7_coverOf_97 rfl (by decide) ?_
          (first | refine pn_lald1 (q := 99) dX7_coverOf_98 rfl rfl rfl (by omega) (by first | decide | omega) ?_ | refine pn_lald5 (q := 99) dX7_coverOf_98 rfl rfl rfl (by omega) (by first | decide | omega) ?_); refine pn_eq (h' := _) (st' := .long (lN Y.2.2.1) :: _) rfl rfl ?_
          refine pn_lconst (q := 100) (v := lN 0) dX7_coverOf_99 rfl (by decide) ?_
          refine pn_leq (q1 := 101) (q := 104) (tgt := 117) dX7_coverOf_100 rfl dX7_coverOf_101 (by decide) rfl (fun hc100 => ?_) (fun hc100 => ?_)
          · refine pn_iload_n (q := 118) dX7_coverOf_117 rfl rfl ?_
            refine pn_aload_n (q := 119) dX7_coverOf_118 rfl rfl rfl ?_
            refine pn_iload (q := 121) dX7_coverOf_119 rfl rfl ?_
            refine pn_iconst (q := 122) (v := nI 0) dX7_coverOf_121 rfl (by decide) ?_
            refine pn_idV (q := 125) (bc9 := 0) (bs9 := 0) (C0) lkX7_314 dX7_coverOf_122 rfl rfl (hM_cl) (hM_cl) (Nat.le_of_ble_eq_true rfl) rfl rfl rfl rfl rfl rfl (by omega) (by omega) (by omega) (Nat.le_of_ble_eq_true rfl) ?_
            refine pn_aload_n (q := 126) dX7_coverOf_125 rfl rfl rfl ?_
            refine pn_iload (q := 128) dX7_coverOf_126 rfl rfl ?_
            refine pn_iload (q := 130) dX7_coverOf_128 rfl rfl ?_
            refine pn_iconst (q := 131) (v := nI 1) dX7_coverOf_130 rfl (by decide) ?_
            refine pn_isubN (q := 132) dX7_coverOf_131 rfl (by omega) ?_; rw [show plN Y.2.2.1 Y.2.2.2.1 - 1 = j by omega]
            refine pn_idV (q := 135) (bc9 := 0) (bs9 := 0) (C1) lkX7_314 dX7_coverOf_132 rfl rfl (hM_cl) (hM_cl) (Nat.le_of_ble_eq_true rfl) rfl rfl rfl rfl rfl rfl (by omega) (by omega) (by omega) (Nat.le_of_ble_eq_true rfl) ?_
            refine pn_iload_n (q := 136) dX7_coverOf_135 rfl rfl ?_
            refine pn_roS1 (q := 139) (CD) lkX7_317 dX7_coverOf_136 rfl rfl (pnSel_of (I := []) rfl rfl) (pnFree_none rfl) rfl (by omega) (Nat.le_of_ble_eq_true rfl) rfl ?_
            refine pn_iload_n (q := 140) dX7_coverOf_139 rfl rfl ?_
            first | refine pn_nne (q := 143) (tgt := 147) dX7_coverOf_140 (by decide) rfl (by omega) (by omega) (fun hc140 => ?_) (fun hc140 => ?_) | refine pn_icmp_ne (q := 143) (tgt := 147) dX7_coverOf_140 (by decide) rfl (fun hc140 => ?_) (fun hc140 => ?_)
            · refine pn_iconst (q := 148) (v := nI 0) dX7_coverOf_147 rfl (by decide) ?_
              first | with_reducible refine pn_iaddN (q := 149) dX7_coverOf_148 rfl ?_ | refine pn_iadd (q := 149) dX7_coverOf_148 rfl ?_
              refine pn_istore_n (q := 150) dX7_coverOf_149 rfl (by decide) ?_
              (first | (rw [e2, if_pos ‹_›] at kk; exact pn_take 5 kk) | (rw [e2, if_neg ‹_›] at kk; exact pn_take 5 kk))
            · refine pn_iconst (q := 144) (v := nI 1) dX7_coverOf_143 rfl (by decide) ?_
              refine pn_goto (q := 148) dX7_coverOf_144 (by decide) ?_
              first | with_reducible refine pn_iaddN (q := 149) dX7_coverOf_148 rfl ?_ | refine pn_iadd (q := 149) dX7_coverOf_148 rfl ?_
              refine pn_istore_n (q := 150) dX7_coverOf_149 rfl (by decide) ?_
              (first | (rw [e2, if_pos ‹_›] at kk; exact pn_take 5 kk) | (rw [e2, if_neg ‹_›] at kk; exact pn_take 5 kk))
          · refine pn_aload_n (q := 105) dX7_coverOf_104 rfl rfl rfl ?_
            refine pn_get (q := 108) fX7_20 dX7_coverOf_105 rfl rfl rfl ?_
            refine pn_iconst (q := 109) (v := nI 1) dX7_coverOf_108 rfl (by decide) ?_
            (first | refine pn_lald1 (q := 110) dX7_coverOf_109 rfl rfl rfl (by omega) (by first | decide | omega) ?_ | refine pn_lald5 (q := 110) dX7_coverOf_109 rfl rfl rfl (by omega) (by first | decide | omega) ?_); refine pn_eq (h' := _) (st' := .long (lN Y.2.2.1) :: _) rfl rfl ?_
            refine pn_ldc2 (q := 113) pw_1077 dX7_coverOf_110 rfl ?_; refine pn_eq (h' := _) (st' := .long (lN 3) :: _) rfl rfl ?_
            refine pn_lne (q1 := 114) (q := 117) (tgt := 150) dX7_coverOf_113 rfl dX7_coverOf_114 (by decide) rfl (fun hc113 => ?_) (fun hc113 => ?_)
            · (rw [lN_eqI (by omega) (by omega)] at hc113; rw [lN_eqI (by omega) (by omega)] at hc100; omega)
            · refine pn_iload_n (q := 118) dX7_coverOf_117 rfl rfl ?_
              refine pn_aload_n (q := 119) dX7_coverOf_118 rfl rfl rfl ?_
              refine pn_iload (q := 121) dX7_coverOf_119 rfl rfl ?_
              refine pn_iconst (q := 122) (v := nI 0) dX7_coverOf_121 rfl (by decide) ?_
              refine pn_idV (q := 125) (bc9 := 0) (bs9 := 0) (C0) lkX7_314 dX7_coverOf_122 rfl rfl (hM_cl) (hM_cl) (Nat.le_of_ble_eq_true rfl) rfl rfl rfl rfl rfl rfl (by omega) (by omega) (by omega) (Nat.le_of_ble_eq_true rfl) ?_
              refine pn_aload_n (q := 126) dX7_coverOf_125 rfl rfl rfl ?_
              refine pn_iload (q := 128) dX7_coverOf_126 rfl rfl ?_
              refine pn_iload (q := 130) dX7_coverOf_128 rfl rfl ?_
              refine pn_iconst (q := 131) (v := nI 1) dX7_coverOf_130 rfl (by decide) ?_
              refine pn_isubN (q := 132) dX7_coverOf_131 rfl (by omega) ?_; rw [show plN Y.2.2.1 Y.2.2.2.1 - 1 = j by omega]
              refine pn_idV (q := 135) (bc9 := 0) (bs9 := 0) (C1) lkX7_314 dX7_coverOf_132 rfl rfl (hM_cl) (hM_cl) (Nat.le_of_ble_eq_true rfl) rfl rfl rfl rfl rfl rfl (by omega) (by omega) (by omega) (Nat.le_of_ble_eq_true rfl) ?_
              refine pn_iload_n (q := 136) dX7_coverOf_135 rfl rfl ?_
              refine pn_roS1 (q := 139) (CD) lkX7_317 dX7_coverOf_136 rfl rfl (pnSel_of (I := []) rfl rfl) (pnFree_none rfl) rfl (by omega) (Nat.le_of_ble_eq_true rfl) rfl ?_
              refine pn_iload_n (q := 140) dX7_coverOf_139 rfl rfl ?_
              first | refine pn_nne (q := 143) (tgt := 147) dX7_coverOf_140 (by decide) rfl (by omega) (by omega) (fun hc140 => ?_) (fun hc140 => ?_) | refine pn_icmp_ne (q := 143) (tgt := 147) dX7_coverOf_140 (by decide) rfl (fun hc140 => ?_) (fun hc140 => ?_)
              · refine pn_iconst (q := 148) (v := nI 0) dX7_coverOf_147 rfl (by decide) ?_
                first | with_reducible refine pn_iaddN (q := 149) dX7_coverOf_148 rfl ?_ | refine pn_iadd (q := 149) dX7_coverOf_148 rfl ?_
                refine pn_istore_n (q := 150) dX7_coverOf_149 rfl (by decide) ?_
                (first | (rw [e2, if_pos ‹_›] at kk; exact pn_take 5 kk) | (rw [e2, if_neg ‹_›] at kk; exact pn_take 5 kk))
              · refine pn_iconst (q := 144) (v := nI 1) dX7_coverOf_143 rfl (by decide) ?_
                refine pn_goto (q := 148) dX7_coverOf_144 (by decide) ?_
                first | with_reducible refine pn_iaddN (q := 149) dX7_coverOf_148 rfl ?_ | refine pn_iadd (q := 149) dX7_coverOf_148 rfl ?_
                refine pn_istore_n (q := 150) dX7_coverOf_149 rfl (by decide) ?_
                (first | (rw [e2, if_pos ‹_›] at kk; exact pn_take 5 kk) | (rw [e2, if_neg ‹_›] at kk; exact pn_take 5 kk))
        · omega
      · have hpl : plN Y.2.2.1 Y.2.2.2.1 = Y.2.2.2.1 + 1 := if_neg hcl
        have hsh : Y.2.2.1 ≠ 0 ∧ Y.2.2.1 ≠ 3 := by
          unfold clN at hcl
          simp at hcl
          exact hcl
        have e2 : cvN Y.2.2.1 Y.2.2.2.1 bN m q (u + 1) = cvN Y.2.2.1 Y.2.2.2.1 bN m q u + cvI Y.2.2.1 Y.2.2.2.1 bN m q u j := by
          show cvN Y.2.2.1 Y.2.2.2.1 bN m q u + cvI Y.2.2.1 Y.2.2.2.1 bN m q u Y.2.2.2.1 = _
          rw [show Y.2.2.2.1 = j by omega]
        rw [e2] at kk
        refine pn_iload (q := 31) dX7_coverOf_29 rfl rfl ?_
        refine pn_iload (q := 33) dX7_coverOf_31 rfl rfl ?_
        first | refine pn_nge (q := 36) (tgt := 93) dX7_coverOf_33 (by decide) rfl (by omega) (by omega) (fun hc33 => ?_) (fun hc33 => ?_) | refine pn_icmp_ge (q := 36) (tgt := 93) dX7_coverOf_33 (by decide) rfl (fun hc33 => ?_) (fun hc33 => ?_)
        · refine pn_aload_n (q := 94) dX7_coverOf_93 rfl rfl rfl ?_
          refine pn_get (q := 97) fX7_20 dX7_coverOf_94 rfl rfl rfl ?_
          refine pn_iconst (q := 98) (v := nI 1) dX7_coverOf_97 rfl (by decide) ?_
          (first | refine pn_lald1 (q := 99) dX7_coverOf_98 rfl rfl rfl (by omega) (by first | decide | omega) ?_ | refine pn_lald5 (q := 99) dX7_coverOf_98 rfl rfl rfl (by omega) (by first | decide | omega) ?_); refine pn_eq (h' := _) (st' := .long (lN Y.2.2.1) :: _) rfl rfl ?_
          refine pn_lconst (q := 100) (v := lN 0) dX7_coverOf_99 rfl (by decide) ?_
          refine pn_leq (q1 := 101) (q := 104) (tgt := 117) dX7_coverOf_100 rfl dX7_coverOf_101 (by decide) rfl (fun hc100 => ?_) (fun hc100 => ?_)
          · (rw [lN_eqI (by omega) (by omega)] at hc100; omega)
          · refine pn_aload_n (q := 105) dX7_coverOf_104 rfl rfl rfl ?_
            refine pn_get (q := 108) fX7_20 dX7_coverOf_105 rfl rfl rfl ?_
            refine pn_iconst (q := 109) (v := nI 1) dX7_coverOf_108 rfl (by decide) ?_
            (first | refine pn_lald1 (q := 110) dX7_coverOf_109 rfl rfl rfl (by omega) (by first | decide | omega) ?_ | refine pn_lald5 (q := 110) dX7_coverOf_109 rfl rfl rfl (by omega) (by first | decide | omega) ?_); refine pn_eq (h' := _) (st' := .long (lN Y.2.2.1) :: _) rfl rfl ?_
            refine pn_ldc2 (q := 113) pw_1077 dX7_coverOf_110 rfl ?_; refine pn_eq (h' := _) (st' := .long (lN 3) :: _) rfl rfl ?_
            refine pn_lne (q1 := 114) (q := 117) (tgt := 150) dX7_coverOf_113 rfl dX7_coverOf_114 (by decide) rfl (fun hc113 => ?_) (fun hc113 => ?_)
            · exact pn_take 5 kk
            · (rw [lN_eqI (by omega) (by omega)] at hc113; omega)
        · omega
    | succ z ih =>
      intro j hj
      have hci := cvI_le Y.2.2.1 Y.2.2.2.1 bN m q u j
      have hj5 : j + 1 < 5 := by omega
      have hjk : j < Y.2.2.2.1 := by
        unfold plN at hj
        split at hj <;> omega
      have hle2 : leN Y.2.2.1 Y.2.2.2.1 j = j + 1 := if_neg (by
        rintro ⟨p1, p2⟩
        rw [show plN Y.2.2.1 Y.2.2.2.1 = Y.2.2.2.1 from if_pos p1] at hj
        omega)
      have k9 := ih (j + 1) (by omega)
      have C1 := m_baseNode adK d Y P a b c e f g h u (j + 1) (by omega) (by omega)
      rw [l2 (j + 1) (by omega)] at C1
      by_cases h2 : Y.2.2.1 = 2
      · have C0 := m_baseNode adK d Y P a b c e f g h u 0 (by omega) (by omega)
        rw [l2 0 (by omega)] at C0
        have n1 := hbN (u * 5 + 0)
        have n2 := hbN (u * 5 + (j + 1))
        have CD := m_difference adK d (bN (u * 5 + 0)) (bN (u * 5 + (j + 1))) m n1 n2 hm hm2
        have hdd := hdl (bN (u * 5 + 0)) (bN (u * 5 + (j + 1)))
        have e2 : cvI Y.2.2.1 Y.2.2.2.1 bN m q u (j + 1) = if dfN (bN (u * 5 + 0)) (bN (u * 5 + (j + 1))) m = q then cvI Y.2.2.1 Y.2.2.2.1 bN m q u j + 1 else cvI Y.2.2.1 Y.2.2.2.1 bN m q u j := by
          show (if dfN (bN (u * 5 + lsN Y.2.2.1 j)) (bN (u * 5 + leN Y.2.2.1 Y.2.2.2.1 j)) m = q then cvI Y.2.2.1 Y.2.2.2.1 bN m q u j + 1 else cvI Y.2.2.1 Y.2.2.2.1 bN m q u j) = _
          rw [show lsN Y.2.2.1 j = 0 from if_pos h2, hle2]
        refine pn_iload (q := 31) dX7_coverOf_29 rfl rfl ?_
        refine pn_iload (q := 33) dX7_coverOf_31 rfl rfl ?_
        first | refine pn_nge (q := 36) (tgt := 93) dX7_coverOf_33 (by decide) rfl (by omega) (by omega) (fun hc33 => ?_) (fun hc33 => ?_) | refine pn_icmp_ge (q := 36) (tgt := 93) dX7_coverOf_33 (by decide) rfl (fun hc33 => ?_) (fun hc33 => ?_)
        · omega
        · refine pn_iload_n (q := 37) dX7_coverOf_36 rfl rfl ?_
          refine pn_aload_n (q := 38) dX7_coverOf_37 rfl rfl rfl ?_
          refine pn_iload (q := 40) dX7_coverOf_38 rfl rfl ?_
          refine pn_aload_n (q := 41) dX7_coverOf_40 rfl rfl rfl ?_
          refine pn_get (q := 44) fX7_20 dX7_coverOf_41 rfl rfl rfl ?_
          refine pn_iconst (q := 45) (v := nI 1) dX7_coverOf_44 rfl (by decide) ?_
          (first | refine pn_lald1 (q := 46) dX7_coverOf_45 rfl rfl rfl (by omega) (by first | decide | omega) ?_ | refine pn_lald5 (q := 46) dX7_coverOf_45 rfl rfl rfl (by omega) (by first | decide | omega) ?_); refine pn_eq (h' := _) (st' := .long (lN Y.2.2.1) :: _) rfl rfl ?_
          refine pn_ldc2 (q := 49) pw_1258 dX7_coverOf_46 rfl ?_; refine pn_eq (h' := _) (st' := .long (lN 2) :: _) rfl rfl ?_
          refine pn_lne (q1 := 50) (q := 53) (tgt := 57) dX7_coverOf_49 rfl dX7_coverOf_50 (by decide) rfl (fun hc49 => ?_) (fun hc49 => ?_)
          · (rw [lN_eqI (by omega) (by omega)] at hc49; omega)
          · refine pn_iconst (q := 54) (v := nI 0) dX7_coverOf_53 rfl (by decide) ?_
            refine pn_goto (q := 61) dX7_coverOf_54 (by decide) ?_
            refine pn_idV (q := 64) (bc9 := 0) (bs9 := 0) (C0) lkX7_314 dX7_coverOf_61 rfl rfl (hM_cl) (hM_cl) (Nat.le_of_ble_eq_true rfl) rfl rfl rfl rfl rfl rfl (by omega) (by omega) (by omega) (Nat.le_of_ble_eq_true rfl) ?_
            refine pn_aload_n (q := 65) dX7_coverOf_64 rfl rfl rfl ?_
            refine pn_iload (q := 67) dX7_coverOf_65 rfl rfl ?_
            refine pn_iload (q := 69) dX7_coverOf_67 rfl rfl ?_
            refine pn_idV (q := 72) (bc9 := 0) (bs9 := 0) (C1) lkX7_314 dX7_coverOf_69 rfl rfl (hM_cl) (hM_cl) (Nat.le_of_ble_eq_true rfl) rfl rfl rfl rfl rfl rfl (by omega) (by omega) (by omega) (Nat.le_of_ble_eq_true rfl) ?_
            refine pn_iload_n (q := 73) dX7_coverOf_72 rfl rfl ?_
            refine pn_roS1 (q := 76) (CD) lkX7_317 dX7_coverOf_73 rfl rfl (pnSel_of (I := []) rfl rfl) (pnFree_none rfl) rfl (by omega) (Nat.le_of_ble_eq_true rfl) rfl ?_
            refine pn_iload_n (q := 77) dX7_coverOf_76 rfl rfl ?_
            first | refine pn_nne (q := 80) (tgt := 84) dX7_coverOf_77 (by decide) rfl (by omega) (by omega) (fun hc77 => ?_) (fun hc77 => ?_) | refine pn_icmp_ne (q := 80) (tgt := 84) dX7_coverOf_77 (by decide) rfl (fun hc77 => ?_) (fun hc77 => ?_)
            · refine pn_iconst (q := 85) (v := nI 0) dX7_coverOf_84 rfl (by decide) ?_
              first | with_reducible refine pn_iaddN (q := 86) dX7_coverOf_85 rfl ?_ | refine pn_iadd (q := 86) dX7_coverOf_85 rfl ?_
              refine pn_istore_n (q := 87) dX7_coverOf_86 rfl (by decide) ?_
              first | refine pn_iinc1 (q := 90) dX7_coverOf_87 rfl rfl (by decide) ?_ | refine pn_iinc (q := 90) (mm := 1) dX7_coverOf_87 rfl rfl (by decide) (by decide) ?_
              refine pn_goto (q := 29) dX7_coverOf_90 (by decide) ?_
              (first | (rw [e2, if_pos ‹_›] at k9; exact pn_take 7 k9) | (rw [e2, if_neg ‹_›] at k9; exact pn_take 7 k9))
            · refine pn_iconst (q := 81) (v := nI 1) dX7_coverOf_80 rfl (by decide) ?_
              refine pn_goto (q := 85) dX7_coverOf_81 (by decide) ?_
              first | with_reducible refine pn_iaddN (q := 86) dX7_coverOf_85 rfl ?_ | refine pn_iadd (q := 86) dX7_coverOf_85 rfl ?_
              refine pn_istore_n (q := 87) dX7_coverOf_86 rfl (by decide) ?_
              first | refine pn_iinc1 (q := 90) dX7_coverOf_87 rfl rfl (by decide) ?_ | refine pn_iinc (q := 90) (mm := 1) dX7_coverOf_87 rfl rfl (by decide) (by decide) ?_
              refine pn_goto (q := 29) dX7_coverOf_90 (by decide) ?_
              (first | (rw [e2, if_pos ‹_›] at k9; exact pn_take 7 k9) | (rw [e2, if_neg ‹_›] at k9; exact pn_take 7 k9))
      · have C0 := m_baseNode adK d Y P a b c e f g h u j (by omega) (by omega)
        rw [l2 j (by omega)] at C0
        have n1 := hbN (u * 5 + j)
        have n2 := hbN (u * 5 + (j + 1))
        have CD := m_difference adK d (bN (u * 5 + j)) (bN (u * 5 + (j + 1))) m n1 n2 hm hm2
        have hdd := hdl (bN (u * 5 + j)) (bN (u * 5 + (j + 1)))
        have e2 : cvI Y.2.2.1 Y.2.2.2.1 bN m q u (j + 1) = if dfN (bN (u * 5 + j)) (bN (u * 5 + (j + 1))) m = q then cvI Y.2.2.1 Y.2.2.2.1 bN m q u j + 1 else cvI Y.2.2.1 Y.2.2.2.1 bN m q u j := by
          show (if dfN (bN (u * 5 + lsN Y.2.2.1 j)) (bN (u * 5 + leN Y.2.2.1 Y.2.2.2.1 j)) m = q then cvI Y.2.2.1 Y.2.2.2.1 bN m q u j + 1 else cvI Y.2.2.1 Y.2.2.2.1 bN m q u j) = _
          rw [show lsN Y.2.2.1 j = j from if_neg h2, hle2]
        refine pn_iload (q := 31) dX7_coverOf_29 rfl rfl ?_
        refine pn_iload (q := 33) dX7_coverOf_31 rfl rfl ?_
        first | refine pn_nge (q := 36) (tgt := 93) dX7_coverOf_33 (by decide) rfl (by omega) (by omega) (fun hc33 => ?_) (fun hc33 => ?_) | refine pn_icmp_ge (q := 36) (tgt := 93) dX7_coverOf_33 (by decide) rfl (fun hc33 => ?_) (fun hc33 => ?_)
        · omega
        · refine pn_iload_n (q := 37) dX7_coverOf_36 rfl rfl ?_
          refine pn_aload_n (q := 38) dX7_coverOf_37 rfl rfl rfl ?_
          refine pn_iload (q := 40) dX7_coverOf_38 rfl rfl ?_
          refine pn_aload_n (q := 41) dX7_coverOf_40 rfl rfl rfl ?_
          refine pn_get (q := 44) fX7_20 dX7_coverOf_41 rfl rfl rfl ?_
          refine pn_iconst (q := 45) (v := nI 1) dX7_coverOf_44 rfl (by decide) ?_
          (first | refine pn_lald1 (q := 46) dX7_coverOf_45 rfl rfl rfl (by omega) (by first | decide | omega) ?_ | refine pn_lald5 (q := 46) dX7_coverOf_45 rfl rfl rfl (by omega) (by first | decide | omega) ?_); refine pn_eq (h' := _) (st' := .long (lN Y.2.2.1) :: _) rfl rfl ?_
          refine pn_ldc2 (q := 49) pw_1258 dX7_coverOf_46 rfl ?_; refine pn_eq (h' := _) (st' := .long (lN 2) :: _) rfl rfl ?_
          refine pn_lne (q1 := 50) (q := 53) (tgt := 57) dX7_coverOf_49 rfl dX7_coverOf_50 (by decide) rfl (fun hc49 => ?_) (fun hc49 => ?_)
          · refine pn_iload (q := 59) dX7_coverOf_57 rfl rfl ?_
            refine pn_iconst (q := 60) (v := nI 1) dX7_coverOf_59 rfl (by decide) ?_
            refine pn_isubN (q := 61) dX7_coverOf_60 rfl (by omega) ?_; rw [show j + 1 - 1 = j by omega]
            refine pn_idV (q := 64) (bc9 := 0) (bs9 := 0) (C0) lkX7_314 dX7_coverOf_61 rfl rfl (hM_cl) (hM_cl) (Nat.le_of_ble_eq_true rfl) rfl rfl rfl rfl rfl rfl (by omega) (by omega) (by omega) (Nat.le_of_ble_eq_true rfl) ?_
            refine pn_aload_n (q := 65) dX7_coverOf_64 rfl rfl rfl ?_
            refine pn_iload (q := 67) dX7_coverOf_65 rfl rfl ?_
            refine pn_iload (q := 69) dX7_coverOf_67 rfl rfl ?_
            refine pn_idV (q := 72) (bc9 := 0) (bs9 := 0) (C1) lkX7_314 dX7_coverOf_69 rfl rfl (hM_cl) (hM_cl) (Nat.le_of_ble_eq_true rfl) rfl rfl rfl rfl rfl rfl (by omega) (by omega) (by omega) (Nat.le_of_ble_eq_true rfl) ?_
            refine pn_iload_n (q := 73) dX7_coverOf_72 rfl rfl ?_
            refine pn_roS1 (q := 76) (CD) lkX7_317 dX7_coverOf_73 rfl rfl (pnSel_of (I := []) rfl rfl) (pnFree_none rfl) rfl (by omega) (Nat.le_of_ble_eq_true rfl) rfl ?_
            refine pn_iload_n (q := 77) dX7_coverOf_76 rfl rfl ?_
            first | refine pn_nne (q := 80) (tgt := 84) dX7_coverOf_77 (by decide) rfl (by omega) (by omega) (fun hc77 => ?_) (fun hc77 => ?_) | refine pn_icmp_ne (q := 80) (tgt := 84) dX7_coverOf_77 (by decide) rfl (fun hc77 => ?_) (fun hc77 => ?_)
            · refine pn_iconst (q := 85) (v := nI 0) dX7_coverOf_84 rfl (by decide) ?_
              first | with_reducible refine pn_iaddN (q := 86) dX7_coverOf_85 rfl ?_ | refine pn_iadd (q := 86) dX7_coverOf_85 rfl ?_
              refine pn_istore_n (q := 87) dX7_coverOf_86 rfl (by decide) ?_
              first | refine pn_iinc1 (q := 90) dX7_coverOf_87 rfl rfl (by decide) ?_ | refine pn_iinc (q := 90) (mm := 1) dX7_coverOf_87 rfl rfl (by decide) (by decide) ?_
              refine pn_goto (q := 29) dX7_coverOf_90 (by decide) ?_
              (first | (rw [e2, if_pos ‹_›] at k9; exact pn_take 7 k9) | (rw [e2, if_neg ‹_›] at k9; exact pn_take 7 k9))
            · refine pn_iconst (q := 81) (v := nI 1) dX7_coverOf_80 rfl (by decide) ?_
              refine pn_goto (q := 85) dX7_coverOf_81 (by decide) ?_
              first | with_reducible refine pn_iaddN (q := 86) dX7_coverOf_85 rfl ?_ | refine pn_iadd (q := 86) dX7_coverOf_85 rfl ?_
              refine pn_istore_n (q := 87) dX7_coverOf_86 rfl (by decide) ?_
              first | refine pn_iinc1 (q := 90) dX7_coverOf_87 rfl rfl (by decide) ?_ | refine pn_iinc (q := 90) (mm := 1) dX7_coverOf_87 rfl rfl (by decide) (by decide) ?_
              refine pn_goto (q := 29) dX7_coverOf_90 (by decide) ?_
              (first | (rw [e2, if_pos ‹_›] at k9; exact pn_take 7 k9) | (rw [e2, if_neg ‹_›] at k9; exact pn_take 7 k9))
          · (rw [lN_eqI (by omega) (by omega)] at hc49; omega)
  have outer : ∀ (z u : Nat), u + z = Y.2.2.2.2.2.1 → pnWP mX7_coverOf adK (d + 2) (pnIs (.inl (some (.int (nI (cvN Y.2.2.1 Y.2.2.2.1 bN m q Y.2.2.2.2.2.1))))) (hM Y P a b c e f g h)) 0 0 (hM Y P a b c e f g h) [some (.ref 0), some (.int (nI m)), some (.int (nI q)), some (.int (nI (cvN Y.2.2.1 Y.2.2.2.1 bN m q u))), some (.int (nI u))] [] 5 := by
    intro z
    induction z with
    | zero =>
      intro u hb
      refine pn_iload (q := 7) dX7_coverOf_5 rfl rfl ?_
      first | with_reducible refine pn_i2lN (q := 8) dX7_coverOf_7 rfl (by omega) ?_ | refine pn_i2l (q := 8) dX7_coverOf_7 rfl ?_
      refine pn_aload_n (q := 9) dX7_coverOf_8 rfl rfl rfl ?_
      refine pn_get (q := 12) fX7_20 dX7_coverOf_9 rfl rfl rfl ?_
      refine pn_iconst (q := 13) (v := nI 4) dX7_coverOf_12 rfl (by decide) ?_
      (first | refine pn_lald1 (q := 14) dX7_coverOf_13 rfl rfl rfl (by omega) (by first | decide | omega) ?_ | refine pn_lald5 (q := 14) dX7_coverOf_13 rfl rfl rfl (by omega) (by first | decide | omega) ?_); refine pn_eq (h' := _) (st' := .long (lN Y.2.2.2.2.2.1) :: _) rfl rfl ?_
      refine pn_lge (q1 := 15) (q := 18) (tgt := 156) dX7_coverOf_14 rfl dX7_coverOf_15 (by decide) rfl (fun hc14 => ?_) (fun hc14 => ?_)
      · refine pn_iload_n (q := 157) dX7_coverOf_156 rfl rfl ?_
        refine pn_iret dX7_coverOf_157 rfl ?_
        exact ⟨by rw [show u = Y.2.2.2.2.2.1 by omega], rfl⟩
      · exact (hc14 ((lN_leI (by omega) (by omega)).mpr (by omega))).elim
    | succ z ih =>
      intro u hb
      have k83 : pnWP mX7_coverOf adK (d + 2) (pnIs (.inl (some (.int (nI (cvN Y.2.2.1 Y.2.2.2.1 bN m q Y.2.2.2.2.2.1))))) (hM Y P a b c e f g h)) 0 0 (hM Y P a b c e f g h) [some (.ref 0), some (.int (nI m)), some (.int (nI q)), some (.int (nI (cvN Y.2.2.1 Y.2.2.2.1 bN m q (u + 1)))), some (.int (nI u))] [] 150 := by
        first | refine pn_iinc1 (q := 153) dX7_coverOf_150 rfl rfl (by decide) ?_ | refine pn_iinc (q := 153) (mm := 1) dX7_coverOf_150 rfl rfl (by decide) (by decide) ?_
        refine pn_goto (q := 5) dX7_coverOf_153 (by decide) ?_
        exact ih (u + 1) (by omega)
      have CL := m_baseLong adK d Y P a b c e f g h u (by omega)
      rw [(hB2 u (by omega)).1] at CL
      refine pn_iload (q := 7) dX7_coverOf_5 rfl rfl ?_
      first | with_reducible refine pn_i2lN (q := 8) dX7_coverOf_7 rfl (by omega) ?_ | refine pn_i2l (q := 8) dX7_coverOf_7 rfl ?_
      refine pn_aload_n (q := 9) dX7_coverOf_8 rfl rfl rfl ?_
      refine pn_get (q := 12) fX7_20 dX7_coverOf_9 rfl rfl rfl ?_
      refine pn_iconst (q := 13) (v := nI 4) dX7_coverOf_12 rfl (by decide) ?_
      (first | refine pn_lald1 (q := 14) dX7_coverOf_13 rfl rfl rfl (by omega) (by first | decide | omega) ?_ | refine pn_lald5 (q := 14) dX7_coverOf_13 rfl rfl rfl (by omega) (by first | decide | omega) ?_); refine pn_eq (h' := _) (st' := .long (lN Y.2.2.2.2.2.1) :: _) rfl rfl ?_
      refine pn_lge (q1 := 15) (q := 18) (tgt := 156) dX7_coverOf_14 rfl dX7_coverOf_15 (by decide) rfl (fun hc14 => ?_) (fun hc14 => ?_)
      · (rw [lN_leI (by omega) (by omega)] at hc14; omega)
      · refine pn_aload_n (q := 19) dX7_coverOf_18 rfl rfl rfl ?_
        refine pn_iload (q := 21) dX7_coverOf_19 rfl rfl ?_
        refine pn_idV (q := 24) (bc9 := 0) (bs9 := 0) (CL) lkX7_311 dX7_coverOf_21 rfl rfl (hM_cl) (hM_cl) (Nat.le_of_ble_eq_true rfl) rfl rfl rfl rfl rfl rfl (by omega) (by omega) (by omega) (Nat.le_of_ble_eq_true rfl) ?_
        refine pn_istore (q := 26) dX7_coverOf_24 rfl (by decide) ?_
        refine pn_iconst (q := 27) (v := nI 1) dX7_coverOf_26 rfl (by decide) ?_
        refine pn_istore (q := 29) dX7_coverOf_27 rfl (by decide) ?_
        exact inner u (by omega) k83 (plN Y.2.2.1 Y.2.2.2.1 - 1) 0 (by omega)
  refine pn_iconst (q := 1) (v := nI 0) dX7_coverOf_0 rfl (by decide) ?_
  refine pn_istore_n (q := 2) dX7_coverOf_1 rfl (by decide) ?_
  refine pn_iconst (q := 3) (v := nI 0) dX7_coverOf_2 rfl (by decide) ?_
  refine pn_istore (q := 5) dX7_coverOf_3 rfl (by decide) ?_
  exact outer Y.2.2.2.2.2.1 0 (by omega)
set_option maxRecDepth 100000 in
theorem m_wrongIn (adK : Nat → Nat) (d : Nat) (Y : MN) (P : Nat → MN) (a : G0) (b : G1) (c : G3) (e : G4) (f : G5) (g : G6) (h : G7) (bN : Nat → Nat) (m : Nat) (hS : shOk Y.2.2.1 Y.2.2.2.1) (hB : bsOk Y bN) (hm : 1 ≤ m) (hm2 : m ≤ 31) : pnCt mX7_wrongIn adK (d + 3) 0 0 [.ref 0, .int (nI m)] (hM Y P a b c e f g h) (pnIs (.inl (some (.int (bdN Y.2.2.1 Y.2.2.2.1 bN m Y.2.2.2.2.2.1 0 (m / 2 + 1))))) (hM Y P a b c e f g h)) := by
  refine pnCt_of (by decide) kX7_wrongIn (Nat.le_of_ble_eq_true rfl) rfl hM_cl (pnCS_b rfl) ?_
  obtain ⟨b1, b2, b3, b4, b5, b6⟩ := shOk_b hS
  have hle : ∀ q, cvN Y.2.2.1 Y.2.2.2.1 bN m q Y.2.2.2.2.2.1 ≤ 20 := fun q => by
    have h1 := cvN_le Y.2.2.1 Y.2.2.2.1 bN m q Y.2.2.2.2.2.1
    have h2 : Y.2.2.2.2.2.1 * Y.2.2.2.1 ≤ 4 * 5 := Nat.mul_le_mul hB.1 b3
    omega
  have loop : ∀ (z q : Nat), q + z = m / 2 + 1 → 1 ≤ q → bdN Y.2.2.1 Y.2.2.2.1 bN m Y.2.2.2.2.2.1 q z = bdN Y.2.2.1 Y.2.2.2.1 bN m Y.2.2.2.2.2.1 0 (m / 2 + 1) → pnWP mX7_wrongIn adK (d + 3) (pnIs (.inl (some (.int (bdN Y.2.2.1 Y.2.2.2.1 bN m Y.2.2.2.2.2.1 0 (m / 2 + 1))))) (hM Y P a b c e f g h)) 0 0 (hM Y P a b c e f g h) [some (.ref 0), some (.int (nI m)), some (.int (nI q))] [] 13 := by
    intro z
    induction z with
    | zero =>
      intro q hq hq1 e9
      refine pn_iconst (q := 14) (v := nI 2) dX7_wrongIn_13 rfl (by decide) ?_
      refine pn_iload_n (q := 15) dX7_wrongIn_14 rfl rfl ?_
      first | with_reducible refine pn_imulN (q := 16) dX7_wrongIn_15 rfl ?_ | refine pn_imul (q := 16) dX7_wrongIn_15 rfl ?_
      refine pn_iload_n (q := 17) dX7_wrongIn_16 rfl rfl ?_
      first | refine pn_ngt (q := 20) (tgt := 49) dX7_wrongIn_17 (by decide) rfl (by omega) (by omega) (fun hc17 => ?_) (fun hc17 => ?_) | refine pn_icmp_gt (q := 20) (tgt := 49) dX7_wrongIn_17 (by decide) rfl (fun hc17 => ?_) (fun hc17 => ?_)
      · refine pn_iconst (q := 50) (v := (-1)) dX7_wrongIn_49 rfl (by decide) ?_
        refine pn_iret dX7_wrongIn_50 rfl ?_
        exact ⟨by rw [← e9]; rfl, rfl⟩
      · omega
    | succ z ih =>
      intro q hq hq1 e9
      have hl := hle q
      have e2 : bdN Y.2.2.1 Y.2.2.2.1 bN m Y.2.2.2.2.2.1 q (z + 1) = if cvN Y.2.2.1 Y.2.2.2.1 bN m q Y.2.2.2.2.2.1 = dueN m q then bdN Y.2.2.1 Y.2.2.2.1 bN m Y.2.2.2.2.2.1 (q + 1) z else nI q := rfl
      refine pn_iconst (q := 14) (v := nI 2) dX7_wrongIn_13 rfl (by decide) ?_
      refine pn_iload_n (q := 15) dX7_wrongIn_14 rfl rfl ?_
      first | with_reducible refine pn_imulN (q := 16) dX7_wrongIn_15 rfl ?_ | refine pn_imul (q := 16) dX7_wrongIn_15 rfl ?_
      refine pn_iload_n (q := 17) dX7_wrongIn_16 rfl rfl ?_
      first | refine pn_ngt (q := 20) (tgt := 49) dX7_wrongIn_17 (by decide) rfl (by omega) (by omega) (fun hc17 => ?_) (fun hc17 => ?_) | refine pn_icmp_gt (q := 20) (tgt := 49) dX7_wrongIn_17 (by decide) rfl (fun hc17 => ?_) (fun hc17 => ?_)
      · omega
      · refine pn_aload_n (q := 21) dX7_wrongIn_20 rfl rfl rfl ?_
        refine pn_iload_n (q := 22) dX7_wrongIn_21 rfl rfl ?_
        refine pn_iload_n (q := 23) dX7_wrongIn_22 rfl rfl ?_
        refine pn_idV (q := 26) (bc9 := 0) (bs9 := 0) (m_coverOf adK d Y P a b c e f g h bN m q hS hB hm hm2 (by omega)) lkX7_320 dX7_wrongIn_23 rfl rfl (hM_cl) (hM_cl) (Nat.le_of_ble_eq_true rfl) rfl rfl rfl rfl rfl rfl (by omega) (by omega) (by omega) (Nat.le_of_ble_eq_true rfl) ?_
        refine pn_iconst (q := 27) (v := nI 2) dX7_wrongIn_26 rfl (by decide) ?_
        refine pn_iload_n (q := 28) dX7_wrongIn_27 rfl rfl ?_
        first | with_reducible refine pn_imulN (q := 29) dX7_wrongIn_28 rfl ?_ | refine pn_imul (q := 29) dX7_wrongIn_28 rfl ?_
        refine pn_iload_n (q := 30) dX7_wrongIn_29 rfl rfl ?_
        first | refine pn_nne (q := 33) (tgt := 37) dX7_wrongIn_30 (by decide) rfl (by omega) (by omega) (fun hc30 => ?_) (fun hc30 => ?_) | refine pn_icmp_ne (q := 33) (tgt := 37) dX7_wrongIn_30 (by decide) rfl (fun hc30 => ?_) (fun hc30 => ?_)
        · refine pn_iconst (q := 38) (v := nI 1) dX7_wrongIn_37 rfl (by decide) ?_
          first | refine pn_neq (q := 41) (tgt := 43) dX7_wrongIn_38 (by decide) rfl (by omega) (by omega) (fun hc38 => ?_) (fun hc38 => ?_) | refine pn_icmp_eq (q := 41) (tgt := 43) dX7_wrongIn_38 (by decide) rfl (fun hc38 => ?_) (fun hc38 => ?_)
          · first | refine pn_iinc1 (q := 46) dX7_wrongIn_43 rfl rfl (by decide) ?_ | refine pn_iinc (q := 46) (mm := 1) dX7_wrongIn_43 rfl rfl (by decide) (by decide) ?_
            refine pn_goto (q := 13) dX7_wrongIn_46 (by decide) ?_
            exact pn_take 3 (ih (q + 1) (by omega) (by omega) (by rw [← e9, e2, if_pos (by unfold dueN; first | (rw [if_pos (by omega)]; exact ‹_›) | (rw [if_neg (by omega)]; exact ‹_›))]))
          · refine pn_iload_n (q := 42) dX7_wrongIn_41 rfl rfl ?_
            refine pn_iret dX7_wrongIn_42 rfl ?_
            exact ⟨by rw [← e9, e2, if_neg (by unfold dueN; first | (rw [if_pos (by omega)]; exact ‹_›) | (rw [if_neg (by omega)]; exact ‹_›))], rfl⟩
        · refine pn_iconst (q := 34) (v := nI 0) dX7_wrongIn_33 rfl (by decide) ?_
          refine pn_goto (q := 38) dX7_wrongIn_34 (by decide) ?_
          first | refine pn_neq (q := 41) (tgt := 43) dX7_wrongIn_38 (by decide) rfl (by omega) (by omega) (fun hc38 => ?_) (fun hc38 => ?_) | refine pn_icmp_eq (q := 41) (tgt := 43) dX7_wrongIn_38 (by decide) rfl (fun hc38 => ?_) (fun hc38 => ?_)
          · first | refine pn_iinc1 (q := 46) dX7_wrongIn_43 rfl rfl (by decide) ?_ | refine pn_iinc (q := 46) (mm := 1) dX7_wrongIn_43 rfl rfl (by decide) (by decide) ?_
            refine pn_goto (q := 13) dX7_wrongIn_46 (by decide) ?_
            exact pn_take 3 (ih (q + 1) (by omega) (by omega) (by rw [← e9, e2, if_pos (by unfold dueN; first | (rw [if_pos (by omega)]; exact ‹_›) | (rw [if_neg (by omega)]; exact ‹_›))]))
          · refine pn_iload_n (q := 42) dX7_wrongIn_41 rfl rfl ?_
            refine pn_iret dX7_wrongIn_42 rfl ?_
            exact ⟨by rw [← e9, e2, if_neg (by unfold dueN; first | (rw [if_pos (by omega)]; exact ‹_›) | (rw [if_neg (by omega)]; exact ‹_›))], rfl⟩
  have hl := hle 0
  have e0 : bdN Y.2.2.1 Y.2.2.2.1 bN m Y.2.2.2.2.2.1 0 (m / 2 + 1) = if cvN Y.2.2.1 Y.2.2.2.1 bN m 0 Y.2.2.2.2.2.1 = dueN m 0 then bdN Y.2.2.1 Y.2.2.2.1 bN m Y.2.2.2.2.2.1 1 (m / 2) else nI 0 := rfl
  have e1 : dueN m 0 = 0 := if_pos (Or.inl rfl)
  refine pn_aload_n (q := 1) dX7_wrongIn_0 rfl rfl rfl ?_
  refine pn_iload_n (q := 2) dX7_wrongIn_1 rfl rfl ?_
  refine pn_iconst (q := 3) (v := nI 0) dX7_wrongIn_2 rfl (by decide) ?_
  refine pn_idV (q := 6) (bc9 := 0) (bs9 := 0) (m_coverOf adK d Y P a b c e f g h bN m 0 hS hB hm hm2 (by omega)) lkX7_320 dX7_wrongIn_3 rfl rfl (hM_cl) (hM_cl) (Nat.le_of_ble_eq_true rfl) rfl rfl rfl rfl rfl rfl (by omega) (by omega) (by omega) (Nat.le_of_ble_eq_true rfl) ?_
  first | refine pn_zle (q := 9) (tgt := 11) dX7_wrongIn_6 (by decide) rfl (by omega) (fun hc6 => ?_) (fun hc6 => ?_) | refine pn_if_le (q := 9) (tgt := 11) dX7_wrongIn_6 (by decide) rfl (fun hc6 => ?_) (fun hc6 => ?_)
  · refine pn_iconst (q := 12) (v := nI 1) dX7_wrongIn_11 rfl (by decide) ?_
    refine pn_istore_n (q := 13) dX7_wrongIn_12 rfl (by decide) ?_
    exact loop (m / 2) 1 (by omega) (by omega) (by rw [e0, if_pos (by rw [e1]; omega)])
  · refine pn_iconst (q := 10) (v := nI 0) dX7_wrongIn_9 rfl (by decide) ?_
    refine pn_iret dX7_wrongIn_10 rfl ?_
    exact ⟨by rw [e0, if_neg (by rw [e1]; omega)], rfl⟩
theorem inL_range {lo hi : Nat} (hlo : lo ≤ 1000) (hhi : hi ≤ 1000) (x : Nat) (h1 : lo ≤ x) (h2 : x ≤ hi) : inL (nI x).toInt64 (lN lo) (lN hi) = true := by
  rw [inL_nat hlo hhi]
  apply decide_eq_true
  rw [nI_toInt (by omega)]
  omega
set_option maxRecDepth 100000 in
theorem m_good (adK : Nat → Nat) (d : Nat) (Y : MN) (P : Nat → MN) (a : G0) (b : G1) (c : G3) (e : G4) (f : G5) (g : G6) (h : G7) (bN : Nat → Nat) (m : Nat) (hS : shOk Y.2.2.1 Y.2.2.2.1) (hB : bsOk Y bN) (hm : 3 ≤ m) (hm2 : m ≤ 31) : pnCt mX7_good adK (d + 4) 0 0 [.ref 0, .int (nI m)] (hM Y P a b c e f g h) (pnIs (.inl (some (.int (bdN Y.2.2.1 Y.2.2.2.1 bN m Y.2.2.2.2.2.1 0 (m / 2 + 1))))) (hM Y P (0, a.2) b c e f g h)) := by
  refine pnCt_of (by decide) kX7_good (Nat.le_of_ble_eq_true rfl) rfl hM_cl (pnCS_b rfl) ?_
  have C0 := m_in adK d (nI m).toInt64 (lN 3) (lN 31)
  rw [inL_range (by omega) (by omega) m hm hm2] at C0
  refine pn_aload_n (q := 1) dX7_good_0 rfl rfl rfl ?_
  refine pn_iconst (q := 2) (v := nI 0) dX7_good_1 rfl (by decide) ?_
  (refine pn_put (q := 5) fX7_63 dX7_good_2 rfl rfl (Nat.le_of_ble_eq_true rfl) (pnF_int _) ?_)
  refine pn_eq (h' := (hM Y P (0, a.2) b c e f g h)) (st' := _) rfl rfl ?_
  refine pn_aload_n (q := 6) dX7_good_5 rfl rfl rfl ?_
  refine pn_iload_n (q := 7) dX7_good_6 rfl rfl ?_
  refine pn_i2l (q := 8) dX7_good_7 rfl ?_
  refine pn_ldc2 (q := 11) pw_1077 dX7_good_8 rfl ?_; refine pn_eq (h' := _) (st' := .long (lN 3) :: _) rfl rfl ?_
  refine pn_ldc2 (q := 14) pw_1407 dX7_good_11 rfl ?_; refine pn_eq (h' := _) (st' := .long (lN 31) :: _) rfl rfl ?_
  refine pn_roS1 (q := 17) (C0) lkX7_92 dX7_good_14 rfl rfl (pnSel_of (I := []) rfl rfl) (pnFree_none rfl) rfl (by omega) (Nat.le_of_ble_eq_true rfl) rfl ?_
  refine pn_bne (q := 20) (tgt := 24) dX7_good_17 (by decide) rfl (fun hc17 => ?_) (fun hc17 => ?_)
  · refine pn_iconst (q := 25) (v := nB false) dX7_good_24 rfl (by decide) ?_
    refine pn_iconst (q := 26) (v := nI 1) dX7_good_25 rfl (by decide) ?_
    refine pn_iconst (q := 27) (v := nI 1) dX7_good_26 rfl (by decide) ?_
    refine pn_idV (q := 30) (bc9 := 0) (bs9 := 0) (m_badF adK d Y P (0, a.2) b c e f g h 1 1 rfl) lkX7_206 dX7_good_27 rfl rfl (hM_cl) (hM_cl) (Nat.le_of_ble_eq_true rfl) rfl rfl rfl rfl rfl rfl (by omega) (by omega) (by omega) (Nat.le_of_ble_eq_true rfl) ?_
    refine pn_beq (q := 33) (tgt := 37) dX7_good_30 (by decide) rfl (fun hc30 => ?_) (fun hc30 => ?_)
    · refine pn_aload_n (q := 38) dX7_good_37 rfl rfl rfl ?_
      refine pn_iload_n (q := 39) dX7_good_38 rfl rfl ?_
      refine pn_idV (q := 42) (bc9 := 0) (bs9 := 0) (m_wrongIn adK d Y P (0, a.2) b c e f g h bN m hS hB (by omega) hm2) lkX7_325 dX7_good_39 rfl rfl (hM_cl) (hM_cl) (Nat.le_of_ble_eq_true rfl) rfl rfl rfl rfl rfl rfl (by omega) (by omega) (by omega) (Nat.le_of_ble_eq_true rfl) ?_
      refine pn_iret dX7_good_42 rfl ?_
      exact ⟨rfl, rfl⟩
    · cases hc30
  · cases hc17
set_option maxRecDepth 100000 in
theorem m_goodX (adK : Nat → Nat) (d : Nat) (Y : MN) (P : Nat → MN) (a : G0) (b : G1) (c : G3) (e : G4) (f : G5) (g : G6) (h : G7) (w : Int32) (hw : rdB w = false) : pnCt mX7_good adK (d + 4) 0 0 [.ref 0, .int w] (hM Y P a b c e f g h) (pnIs (.inl (some (.int (nI 0)))) (hM Y P (bdA (0, a.2) 1 1) b c e f g h)) := by
  refine pnCt_of (by decide) kX7_good (Nat.le_of_ble_eq_true rfl) rfl hM_cl (pnCS_b rfl) ?_
  have C0 := m_in adK d w.toInt64 (lN 3) (lN 31)
  rw [inL_nat (by omega) (by omega), show decide (((3 : Nat) : Int) ≤ w.toInt ∧ w.toInt ≤ ((31 : Nat) : Int)) = false from hw] at C0
  refine pn_aload_n (q := 1) dX7_good_0 rfl rfl rfl ?_
  refine pn_iconst (q := 2) (v := nI 0) dX7_good_1 rfl (by decide) ?_
  (refine pn_put (q := 5) fX7_63 dX7_good_2 rfl rfl (Nat.le_of_ble_eq_true rfl) (pnF_int _) ?_)
  refine pn_eq (h' := (hM Y P (0, a.2) b c e f g h)) (st' := _) rfl rfl ?_
  refine pn_aload_n (q := 6) dX7_good_5 rfl rfl rfl ?_
  refine pn_iload_n (q := 7) dX7_good_6 rfl rfl ?_
  refine pn_i2l (q := 8) dX7_good_7 rfl ?_
  refine pn_ldc2 (q := 11) pw_1077 dX7_good_8 rfl ?_; refine pn_eq (h' := _) (st' := .long (lN 3) :: _) rfl rfl ?_
  refine pn_ldc2 (q := 14) pw_1407 dX7_good_11 rfl ?_; refine pn_eq (h' := _) (st' := .long (lN 31) :: _) rfl rfl ?_
  refine pn_roS1 (q := 17) (C0) lkX7_92 dX7_good_14 rfl rfl (pnSel_of (I := []) rfl rfl) (pnFree_none rfl) rfl (by omega) (Nat.le_of_ble_eq_true rfl) rfl ?_
  refine pn_bne (q := 20) (tgt := 24) dX7_good_17 (by decide) rfl (fun hc17 => ?_) (fun hc17 => ?_)
  · cases hc17
  · refine pn_iconst (q := 21) (v := nB true) dX7_good_20 rfl (by decide) ?_
    refine pn_goto (q := 25) dX7_good_21 (by decide) ?_
    refine pn_iconst (q := 26) (v := nI 1) dX7_good_25 rfl (by decide) ?_
    refine pn_iconst (q := 27) (v := nI 1) dX7_good_26 rfl (by decide) ?_
    refine pn_idV (q := 30) (bc9 := 0) (bs9 := 0) (m_badT adK d Y P (0, a.2) b c e f g h 1 1 rfl (by omega) (by omega) (by omega)) lkX7_206 dX7_good_27 rfl rfl (hM_cl) (hM_cl) (Nat.le_of_ble_eq_true rfl) rfl rfl rfl rfl rfl rfl (by omega) (by omega) (by omega) (Nat.le_of_ble_eq_true rfl) ?_
    refine pn_beq (q := 33) (tgt := 37) dX7_good_30 (by decide) rfl (fun hc30 => ?_) (fun hc30 => ?_)
    · cases hc30
    · refine pn_iconst (q := 34) (v := nI 0) dX7_good_33 rfl (by decide) ?_
      refine pn_goto (q := 42) dX7_good_34 (by decide) ?_
      refine pn_iret dX7_good_42 rfl ?_
      exact ⟨rfl, rfl⟩
set_option maxRecDepth 100000 in
theorem m_cover (adK : Nat → Nat) (d : Nat) (Y : MN) (P : Nat → MN) (a : G0) (b : G1) (c : G3) (e : G4) (f : G5) (g : G6) (h : G7) (bN : Nat → Nat) (m q : Nat) (hS : shOk Y.2.2.1 Y.2.2.2.1) (hB : bsOk Y bN) (hm : 3 ≤ m) (hm2 : m ≤ 31) (hq1 : 1 ≤ q) (hq2 : q ≤ m / 2) : pnCt mX7_cover adK (d + 4) 0 0 [.ref 0, .int (nI m), .int (nI q)] (hM Y P a b c e f g h) (pnIs (.inl (some (.int (nI (cvN Y.2.2.1 Y.2.2.2.1 bN m q Y.2.2.2.2.2.1))))) (hM Y P (0, a.2) b c e f g h)) := by
  refine pnCt_of (by decide) kX7_cover (Nat.le_of_ble_eq_true rfl) rfl hM_cl (pnCS_b rfl) ?_
  have C0 := m_in adK d (nI m).toInt64 (lN 3) (lN 31)
  rw [inL_range (by omega) (by omega) m hm hm2] at C0
  have C1 := m_in adK d (nI q).toInt64 (lN 1) (lN (m / 2))
  rw [inL_range (by omega) (by omega) q hq1 hq2] at C1
  refine pn_aload_n (q := 1) dX7_cover_0 rfl rfl rfl ?_
  refine pn_iconst (q := 2) (v := nI 0) dX7_cover_1 rfl (by decide) ?_
  (refine pn_put (q := 5) fX7_63 dX7_cover_2 rfl rfl (Nat.le_of_ble_eq_true rfl) (pnF_int _) ?_)
  refine pn_eq (h' := (hM Y P (0, a.2) b c e f g h)) (st' := _) rfl rfl ?_
  refine pn_aload_n (q := 6) dX7_cover_5 rfl rfl rfl ?_
  refine pn_iload_n (q := 7) dX7_cover_6 rfl rfl ?_
  refine pn_i2l (q := 8) dX7_cover_7 rfl ?_
  refine pn_ldc2 (q := 11) pw_1077 dX7_cover_8 rfl ?_; refine pn_eq (h' := _) (st' := .long (lN 3) :: _) rfl rfl ?_
  refine pn_ldc2 (q := 14) pw_1407 dX7_cover_11 rfl ?_; refine pn_eq (h' := _) (st' := .long (lN 31) :: _) rfl rfl ?_
  refine pn_roS1 (q := 17) (C0) lkX7_92 dX7_cover_14 rfl rfl (pnSel_of (I := []) rfl rfl) (pnFree_none rfl) rfl (by omega) (Nat.le_of_ble_eq_true rfl) rfl ?_
  refine pn_beq (q := 20) (tgt := 33) dX7_cover_17 (by decide) rfl (fun hc17 => ?_) (fun hc17 => ?_)
  · cases hc17
  · refine pn_iload_n (q := 21) dX7_cover_20 rfl rfl ?_
    refine pn_i2l (q := 22) dX7_cover_21 rfl ?_
    refine pn_lconst (q := 23) (v := lN 1) dX7_cover_22 rfl (by decide) ?_
    refine pn_iload_n (q := 24) dX7_cover_23 rfl rfl ?_
    refine pn_iconst (q := 25) (v := nI 2) dX7_cover_24 rfl (by decide) ?_
    refine pn_idivN (q := 26) dX7_cover_25 rfl (by omega) ?_
    first | with_reducible refine pn_i2lN (q := 27) dX7_cover_26 rfl (by omega) ?_ | refine pn_i2l (q := 27) dX7_cover_26 rfl ?_
    refine pn_roS1 (q := 30) (C1) lkX7_92 dX7_cover_27 rfl rfl (pnSel_of (I := []) rfl rfl) (pnFree_none rfl) rfl (by omega) (Nat.le_of_ble_eq_true rfl) rfl ?_
    refine pn_bne (q := 33) (tgt := 37) dX7_cover_30 (by decide) rfl (fun hc30 => ?_) (fun hc30 => ?_)
    · refine pn_iconst (q := 38) (v := nB false) dX7_cover_37 rfl (by decide) ?_
      refine pn_iconst (q := 39) (v := nI 1) dX7_cover_38 rfl (by decide) ?_
      refine pn_iconst (q := 40) (v := nI 1) dX7_cover_39 rfl (by decide) ?_
      refine pn_idV (q := 43) (bc9 := 0) (bs9 := 0) (m_badF adK d Y P (0, a.2) b c e f g h 1 1 rfl) lkX7_206 dX7_cover_40 rfl rfl (hM_cl) (hM_cl) (Nat.le_of_ble_eq_true rfl) rfl rfl rfl rfl rfl rfl (by omega) (by omega) (by omega) (Nat.le_of_ble_eq_true rfl) ?_
      refine pn_beq (q := 46) (tgt := 50) dX7_cover_43 (by decide) rfl (fun hc43 => ?_) (fun hc43 => ?_)
      · refine pn_aload_n (q := 51) dX7_cover_50 rfl rfl rfl ?_
        refine pn_iload_n (q := 52) dX7_cover_51 rfl rfl ?_
        refine pn_iload_n (q := 53) dX7_cover_52 rfl rfl ?_
        refine pn_idV (q := 56) (bc9 := 0) (bs9 := 0) (m_coverOf adK d Y P (0, a.2) b c e f g h bN m q hS hB (by omega) hm2 (by omega)) lkX7_320 dX7_cover_53 rfl rfl (hM_cl) (hM_cl) (Nat.le_of_ble_eq_true rfl) rfl rfl rfl rfl rfl rfl (by omega) (by omega) (by omega) (Nat.le_of_ble_eq_true rfl) ?_
        refine pn_iret dX7_cover_56 rfl ?_
        exact ⟨rfl, rfl⟩
      · cases hc43
    · cases hc30
set_option maxRecDepth 100000 in
theorem m_coverXa (adK : Nat → Nat) (d : Nat) (Y : MN) (P : Nat → MN) (a : G0) (b : G1) (c : G3) (e : G4) (f : G5) (g : G6) (h : G7) (w v : Int32) (hw : rdB w = false) : pnCt mX7_cover adK (d + 4) 0 0 [.ref 0, .int w, .int v] (hM Y P a b c e f g h) (pnIs (.inl (some (.int (nI 0)))) (hM Y P (bdA (0, a.2) 1 1) b c e f g h)) := by
  refine pnCt_of (by decide) kX7_cover (Nat.le_of_ble_eq_true rfl) rfl hM_cl (pnCS_b rfl) ?_
  have C0 := m_in adK d w.toInt64 (lN 3) (lN 31)
  rw [inL_nat (by omega) (by omega), show decide (((3 : Nat) : Int) ≤ w.toInt ∧ w.toInt ≤ ((31 : Nat) : Int)) = false from hw] at C0
  refine pn_aload_n (q := 1) dX7_cover_0 rfl rfl rfl ?_
  refine pn_iconst (q := 2) (v := nI 0) dX7_cover_1 rfl (by decide) ?_
  (refine pn_put (q := 5) fX7_63 dX7_cover_2 rfl rfl (Nat.le_of_ble_eq_true rfl) (pnF_int _) ?_)
  refine pn_eq (h' := (hM Y P (0, a.2) b c e f g h)) (st' := _) rfl rfl ?_
  refine pn_aload_n (q := 6) dX7_cover_5 rfl rfl rfl ?_
  refine pn_iload_n (q := 7) dX7_cover_6 rfl rfl ?_
  refine pn_i2l (q := 8) dX7_cover_7 rfl ?_
  refine pn_ldc2 (q := 11) pw_1077 dX7_cover_8 rfl ?_; refine pn_eq (h' := _) (st' := .long (lN 3) :: _) rfl rfl ?_
  refine pn_ldc2 (q := 14) pw_1407 dX7_cover_11 rfl ?_; refine pn_eq (h' := _) (st' := .long (lN 31) :: _) rfl rfl ?_
  refine pn_roS1 (q := 17) (C0) lkX7_92 dX7_cover_14 rfl rfl (pnSel_of (I := []) rfl rfl) (pnFree_none rfl) rfl (by omega) (Nat.le_of_ble_eq_true rfl) rfl ?_
  refine pn_beq (q := 20) (tgt := 33) dX7_cover_17 (by decide) rfl (fun hc17 => ?_) (fun hc17 => ?_)
  · refine pn_iconst (q := 34) (v := nB true) dX7_cover_33 rfl (by decide) ?_
    refine pn_goto (q := 38) dX7_cover_34 (by decide) ?_
    refine pn_iconst (q := 39) (v := nI 1) dX7_cover_38 rfl (by decide) ?_
    refine pn_iconst (q := 40) (v := nI 1) dX7_cover_39 rfl (by decide) ?_
    refine pn_idV (q := 43) (bc9 := 0) (bs9 := 0) (m_badT adK d Y P (0, a.2) b c e f g h 1 1 rfl (by omega) (by omega) (by omega)) lkX7_206 dX7_cover_40 rfl rfl (hM_cl) (hM_cl) (Nat.le_of_ble_eq_true rfl) rfl rfl rfl rfl rfl rfl (by omega) (by omega) (by omega) (Nat.le_of_ble_eq_true rfl) ?_
    refine pn_beq (q := 46) (tgt := 50) dX7_cover_43 (by decide) rfl (fun hc43 => ?_) (fun hc43 => ?_)
    · cases hc43
    · refine pn_iconst (q := 47) (v := nI 0) dX7_cover_46 rfl (by decide) ?_
      refine pn_goto (q := 56) dX7_cover_47 (by decide) ?_
      refine pn_iret dX7_cover_56 rfl ?_
      exact ⟨rfl, rfl⟩
  · cases hc17
set_option maxRecDepth 100000 in
theorem m_coverXb (adK : Nat → Nat) (d : Nat) (Y : MN) (P : Nat → MN) (a : G0) (b : G1) (c : G3) (e : G4) (f : G5) (g : G6) (h : G7) (m : Nat) (v : Int32) (hm : 3 ≤ m) (hm2 : m ≤ 31) (hv : ¬ (1 ≤ v.toInt ∧ v.toInt ≤ ((m / 2 : Nat) : Int))) : pnCt mX7_cover adK (d + 4) 0 0 [.ref 0, .int (nI m), .int v] (hM Y P a b c e f g h) (pnIs (.inl (some (.int (nI 0)))) (hM Y P (bdA (0, a.2) 1 1) b c e f g h)) := by
  refine pnCt_of (by decide) kX7_cover (Nat.le_of_ble_eq_true rfl) rfl hM_cl (pnCS_b rfl) ?_
  have C0 := m_in adK d (nI m).toInt64 (lN 3) (lN 31)
  rw [inL_range (by omega) (by omega) m hm hm2] at C0
  have C1 := m_in adK d v.toInt64 (lN 1) (lN (m / 2))
  rw [inL_nat (by omega) (by omega), show decide (((1 : Nat) : Int) ≤ v.toInt ∧ v.toInt ≤ ((m / 2 : Nat) : Int)) = false from decide_eq_false hv] at C1
  refine pn_aload_n (q := 1) dX7_cover_0 rfl rfl rfl ?_
  refine pn_iconst (q := 2) (v := nI 0) dX7_cover_1 rfl (by decide) ?_
  (refine pn_put (q := 5) fX7_63 dX7_cover_2 rfl rfl (Nat.le_of_ble_eq_true rfl) (pnF_int _) ?_)
  refine pn_eq (h' := (hM Y P (0, a.2) b c e f g h)) (st' := _) rfl rfl ?_
  refine pn_aload_n (q := 6) dX7_cover_5 rfl rfl rfl ?_
  refine pn_iload_n (q := 7) dX7_cover_6 rfl rfl ?_
  refine pn_i2l (q := 8) dX7_cover_7 rfl ?_
  refine pn_ldc2 (q := 11) pw_1077 dX7_cover_8 rfl ?_; refine pn_eq (h' := _) (st' := .long (lN 3) :: _) rfl rfl ?_
  refine pn_ldc2 (q := 14) pw_1407 dX7_cover_11 rfl ?_; refine pn_eq (h' := _) (st' := .long (lN 31) :: _) rfl rfl ?_
  refine pn_roS1 (q := 17) (C0) lkX7_92 dX7_cover_14 rfl rfl (pnSel_of (I := []) rfl rfl) (pnFree_none rfl) rfl (by omega) (Nat.le_of_ble_eq_true rfl) rfl ?_
  refine pn_beq (q := 20) (tgt := 33) dX7_cover_17 (by decide) rfl (fun hc17 => ?_) (fun hc17 => ?_)
  · cases hc17
  · refine pn_iload_n (q := 21) dX7_cover_20 rfl rfl ?_
    refine pn_i2l (q := 22) dX7_cover_21 rfl ?_
    refine pn_lconst (q := 23) (v := lN 1) dX7_cover_22 rfl (by decide) ?_
    refine pn_iload_n (q := 24) dX7_cover_23 rfl rfl ?_
    refine pn_iconst (q := 25) (v := nI 2) dX7_cover_24 rfl (by decide) ?_
    refine pn_idivN (q := 26) dX7_cover_25 rfl (by omega) ?_
    first | with_reducible refine pn_i2lN (q := 27) dX7_cover_26 rfl (by omega) ?_ | refine pn_i2l (q := 27) dX7_cover_26 rfl ?_
    refine pn_roS1 (q := 30) (C1) lkX7_92 dX7_cover_27 rfl rfl (pnSel_of (I := []) rfl rfl) (pnFree_none rfl) rfl (by omega) (Nat.le_of_ble_eq_true rfl) rfl ?_
    refine pn_bne (q := 33) (tgt := 37) dX7_cover_30 (by decide) rfl (fun hc30 => ?_) (fun hc30 => ?_)
    · cases hc30
    · refine pn_iconst (q := 34) (v := nB true) dX7_cover_33 rfl (by decide) ?_
      refine pn_goto (q := 38) dX7_cover_34 (by decide) ?_
      refine pn_iconst (q := 39) (v := nI 1) dX7_cover_38 rfl (by decide) ?_
      refine pn_iconst (q := 40) (v := nI 1) dX7_cover_39 rfl (by decide) ?_
      refine pn_idV (q := 43) (bc9 := 0) (bs9 := 0) (m_badT adK d Y P (0, a.2) b c e f g h 1 1 rfl (by omega) (by omega) (by omega)) lkX7_206 dX7_cover_40 rfl rfl (hM_cl) (hM_cl) (Nat.le_of_ble_eq_true rfl) rfl rfl rfl rfl rfl rfl (by omega) (by omega) (by omega) (Nat.le_of_ble_eq_true rfl) ?_
      refine pn_beq (q := 46) (tgt := 50) dX7_cover_43 (by decide) rfl (fun hc43 => ?_) (fun hc43 => ?_)
      · cases hc43
      · refine pn_iconst (q := 47) (v := nI 0) dX7_cover_46 rfl (by decide) ?_
        refine pn_goto (q := 56) dX7_cover_47 (by decide) ?_
        refine pn_iret dX7_cover_56 rfl ?_
        exact ⟨rfl, rfl⟩
