set_option maxRecDepth 100000 in
theorem m_nodeXa (adK : Nat → Nat) (d : Nat) (Y : MN) (P : Nat → MN) (a : G0) (b : G1) (c : G3) (e : G4) (f : G5) (g : G6) (h : G7) (x w : Int32) (hn : Y.1 ≤ 11) (hn1 : 1 ≤ Y.1) (hx : hasN Y.1 x = false) : pnCt mX7_node adK (d + 2) 0 0 [.ref 0, .int x, .int w] (hM Y P a b c e f g h) (pnIs (.inl (some (.int (nI 0)))) (hM Y P (bdA (0, a.2) 1 0) b c e f g h)) := by
  refine pnCt_of (by decide) kX7_node (Nat.le_of_ble_eq_true rfl) rfl hM_cl (pnCS_b rfl) ?_
  have Cx := m_isNode adK d Y P (0, a.2) b c e f g h x hn hn1
  rw [hx] at Cx
  refine pn_aload_n (q := 1) dX7_node_0 rfl rfl rfl ?_
  refine pn_iconst (q := 2) (v := nI 0) dX7_node_1 rfl (by decide) ?_
  (refine pn_put (q := 5) fX7_63 dX7_node_2 rfl rfl (Nat.le_of_ble_eq_true rfl) (pnF_int _) ?_)
  refine pn_eq (h' := (hM Y P (0, a.2) b c e f g h)) (st' := _) rfl rfl ?_
  refine pn_aload_n (q := 6) dX7_node_5 rfl rfl rfl ?_
  refine pn_aload_n (q := 7) dX7_node_6 rfl rfl rfl ?_
  refine pn_iload_n (q := 8) dX7_node_7 rfl rfl ?_
  refine pn_idV (q := 11) (bc9 := 0) (bs9 := 0) (Cx) lkX7_333 dX7_node_8 rfl rfl (hM_cl) (hM_cl) (Nat.le_of_ble_eq_true rfl) rfl rfl rfl rfl rfl rfl (by omega) (by omega) (by omega) (Nat.le_of_ble_eq_true rfl) ?_
  refine pn_bne (q := 14) (tgt := 18) dX7_node_11 (by decide) rfl (fun hc11 => ?_) (fun hc11 => ?_)
  · cases hc11
  · refine pn_iconst (q := 15) (v := nB true) dX7_node_14 rfl (by decide) ?_
    refine pn_goto (q := 19) dX7_node_15 (by decide) ?_
    refine pn_iconst (q := 20) (v := nI 1) dX7_node_19 rfl (by decide) ?_
    refine pn_iconst (q := 21) (v := nI 0) dX7_node_20 rfl (by decide) ?_
    refine pn_idV (q := 24) (bc9 := 0) (bs9 := 0) (m_badT adK d Y P (0, a.2) b c e f g h 1 0 rfl (by omega) (by omega) (by omega)) lkX7_206 dX7_node_21 rfl rfl (hM_cl) (hM_cl) (Nat.le_of_ble_eq_true rfl) rfl rfl rfl rfl rfl rfl (by omega) (by omega) (by omega) (Nat.le_of_ble_eq_true rfl) ?_
    refine pn_bne (q := 27) (tgt := 53) dX7_node_24 (by decide) rfl (fun hc24 => ?_) (fun hc24 => ?_)
    · refine pn_iconst (q := 54) (v := nI 0) dX7_node_53 rfl (by decide) ?_
      refine pn_iret dX7_node_54 rfl ?_
      exact ⟨rfl, rfl⟩
    · cases hc24
set_option maxRecDepth 100000 in
theorem m_nodeXb (adK : Nat → Nat) (d : Nat) (Y : MN) (P : Nat → MN) (a : G0) (b : G1) (c : G3) (e : G4) (f : G5) (g : G6) (h : G7) (x w : Int32) (hn : Y.1 ≤ 11) (hn1 : 1 ≤ Y.1) (hx : hasN Y.1 x = true) (hw : hasN 3 w = false) : pnCt mX7_node adK (d + 2) 0 0 [.ref 0, .int x, .int w] (hM Y P a b c e f g h) (pnIs (.inl (some (.int (nI 0)))) (hM Y P (bdA (0, a.2) 2 1) b c e f g h)) := by
  refine pnCt_of (by decide) kX7_node (Nat.le_of_ble_eq_true rfl) rfl hM_cl (pnCS_b rfl) ?_
  have Cx := m_isNode adK d Y P (0, a.2) b c e f g h x hn hn1
  rw [hx] at Cx
  have C0 := m_in adK d w.toInt64 (lN 0) (lN 2)
  rw [inL_has (by omega), hw] at C0
  refine pn_aload_n (q := 1) dX7_node_0 rfl rfl rfl ?_
  refine pn_iconst (q := 2) (v := nI 0) dX7_node_1 rfl (by decide) ?_
  (refine pn_put (q := 5) fX7_63 dX7_node_2 rfl rfl (Nat.le_of_ble_eq_true rfl) (pnF_int _) ?_)
  refine pn_eq (h' := (hM Y P (0, a.2) b c e f g h)) (st' := _) rfl rfl ?_
  refine pn_aload_n (q := 6) dX7_node_5 rfl rfl rfl ?_
  refine pn_aload_n (q := 7) dX7_node_6 rfl rfl rfl ?_
  refine pn_iload_n (q := 8) dX7_node_7 rfl rfl ?_
  refine pn_idV (q := 11) (bc9 := 0) (bs9 := 0) (Cx) lkX7_333 dX7_node_8 rfl rfl (hM_cl) (hM_cl) (Nat.le_of_ble_eq_true rfl) rfl rfl rfl rfl rfl rfl (by omega) (by omega) (by omega) (Nat.le_of_ble_eq_true rfl) ?_
  refine pn_bne (q := 14) (tgt := 18) dX7_node_11 (by decide) rfl (fun hc11 => ?_) (fun hc11 => ?_)
  · refine pn_iconst (q := 19) (v := nB false) dX7_node_18 rfl (by decide) ?_
    refine pn_iconst (q := 20) (v := nI 1) dX7_node_19 rfl (by decide) ?_
    refine pn_iconst (q := 21) (v := nI 0) dX7_node_20 rfl (by decide) ?_
    refine pn_idV (q := 24) (bc9 := 0) (bs9 := 0) (m_badF adK d Y P (0, a.2) b c e f g h 1 0 rfl) lkX7_206 dX7_node_21 rfl rfl (hM_cl) (hM_cl) (Nat.le_of_ble_eq_true rfl) rfl rfl rfl rfl rfl rfl (by omega) (by omega) (by omega) (Nat.le_of_ble_eq_true rfl) ?_
    refine pn_bne (q := 27) (tgt := 53) dX7_node_24 (by decide) rfl (fun hc24 => ?_) (fun hc24 => ?_)
    · cases hc24
    · refine pn_aload_n (q := 28) dX7_node_27 rfl rfl rfl ?_
      refine pn_iload_n (q := 29) dX7_node_28 rfl rfl ?_
      refine pn_i2l (q := 30) dX7_node_29 rfl ?_
      refine pn_lconst (q := 31) (v := lN 0) dX7_node_30 rfl (by decide) ?_
      refine pn_ldc2 (q := 34) pw_1258 dX7_node_31 rfl ?_; refine pn_eq (h' := _) (st' := .long (lN 2) :: _) rfl rfl ?_
      refine pn_roS1 (q := 37) (C0) lkX7_92 dX7_node_34 rfl rfl (pnSel_of (I := []) rfl rfl) (pnFree_none rfl) rfl (by omega) (Nat.le_of_ble_eq_true rfl) rfl ?_
      refine pn_bne (q := 40) (tgt := 44) dX7_node_37 (by decide) rfl (fun hc37 => ?_) (fun hc37 => ?_)
      · cases hc37
      · refine pn_iconst (q := 41) (v := nB true) dX7_node_40 rfl (by decide) ?_
        refine pn_goto (q := 45) dX7_node_41 (by decide) ?_
        refine pn_iconst (q := 46) (v := nI 2) dX7_node_45 rfl (by decide) ?_
        refine pn_iconst (q := 47) (v := nI 1) dX7_node_46 rfl (by decide) ?_
        refine pn_idV (q := 50) (bc9 := 0) (bs9 := 0) (m_badT adK d Y P (0, a.2) b c e f g h 2 1 rfl (by omega) (by omega) (by omega)) lkX7_206 dX7_node_47 rfl rfl (hM_cl) (hM_cl) (Nat.le_of_ble_eq_true rfl) rfl rfl rfl rfl rfl rfl (by omega) (by omega) (by omega) (Nat.le_of_ble_eq_true rfl) ?_
        refine pn_beq (q := 53) (tgt := 55) dX7_node_50 (by decide) rfl (fun hc50 => ?_) (fun hc50 => ?_)
        · cases hc50
        · refine pn_iconst (q := 54) (v := nI 0) dX7_node_53 rfl (by decide) ?_
          refine pn_iret dX7_node_54 rfl ?_
          exact ⟨rfl, rfl⟩
  · cases hc11
set_option maxRecDepth 100000 in
theorem m_node0 (adK : Nat → Nat) (d : Nat) (Y : MN) (P : Nat → MN) (a : G0) (b : G1) (c : G3) (e : G4) (f : G5) (g : G6) (h : G7) (i : Nat) (hn : Y.1 ≤ 11) (hpc : Y.2.2.2.2.1 ≤ 60) (hi : i < Y.1) : pnCt mX7_node adK (d + 3) 0 0 [.ref 0, .int (nI i), .int (nI 0)] (hM Y P a b c e f g h) (pnIs (.inl (some (.int (nI (laM Y.2.1 Y.1 i Y.1))))) (hM Y P (0, a.2) b c e f g h)) := by
  refine pnCt_of (by decide) kX7_node (Nat.le_of_ble_eq_true rfl) rfl hM_cl (pnCS_b rfl) ?_
  have Cx := m_isNode adK d Y P (0, a.2) b c e f g h (nI i) hn (by omega)
  rw [hasN_in hi (by omega)] at Cx
  have C0 := m_in adK d (nI 0).toInt64 (lN 0) (lN 2)
  rw [inL_has (by omega), hasN_in (by omega) (by omega)] at C0
  have loop : ∀ (z p : Nat), p + z = Y.2.2.2.2.1 → pnWP mX7_node adK (d + 3) (pnIs (.inl (some (.int (nI (pmN Y.2.2.2.2.2.2.1 (lasN Y.1 i Y.1) Y.2.2.2.2.1))))) (hM Y P (0, a.2) b c e f g h)) 0 0 (hM Y P (0, a.2) b c e f g h) [some (.ref 0), some (.int (nI i)), some (.int (nI 0)), some (.int (nI (pmN Y.2.2.2.2.2.2.1 (lasN Y.1 i Y.1) p))), some (.int (nI p))] [] 89 := by
    intro z
    induction z with
    | zero =>
      intro p hz
      refine pn_iload (q := 91) dX7_node_89 rfl rfl ?_
      refine pn_aload_n (q := 92) dX7_node_91 rfl rfl rfl ?_
      refine pn_idV (q := 95) (bc9 := 0) (bs9 := 0) (m_many adK d Y P (0, a.2) b c e f g h) lkX7_232 dX7_node_92 rfl rfl (hM_cl) (hM_cl) (Nat.le_of_ble_eq_true rfl) rfl rfl rfl rfl rfl rfl (by omega) (by omega) (by omega) (Nat.le_of_ble_eq_true rfl) ?_
      first | refine pn_nge (q := 98) (tgt := 125) dX7_node_95 (by decide) rfl (by omega) (by omega) (fun hc95 => ?_) (fun hc95 => ?_) | refine pn_icmp_ge (q := 98) (tgt := 125) dX7_node_95 (by decide) rfl (fun hc95 => ?_) (fun hc95 => ?_)
      · refine pn_iload_n (q := 126) dX7_node_125 rfl rfl ?_
        refine pn_iret dX7_node_126 rfl ?_
        exact ⟨by rw [show p = Y.2.2.2.2.1 by omega], rfl⟩
      · omega
    | succ z ih =>
      intro p hz
      have k9 := ih (p + 1) (by omega)
      have e2 : pmN Y.2.2.2.2.2.2.1 (lasN Y.1 i Y.1) (p + 1) = pmN Y.2.2.2.2.2.2.1 (lasN Y.1 i Y.1) p + ((ndO (Y.2.2.2.2.2.2.1 p) Y.1 Y.1).testBit i).toNat := by
        show (if Y.2.2.2.2.2.2.1 p &&& lasN Y.1 i Y.1 = 0 then pmN Y.2.2.2.2.2.2.1 (lasN Y.1 i Y.1) p else pmN Y.2.2.2.2.2.2.1 (lasN Y.1 i Y.1) p + 1) = _
        cases hb : (ndO (Y.2.2.2.2.2.2.1 p) Y.1 Y.1).testBit i with
        | false => rw [if_pos ((meets_iff _ hn hi).mpr hb)]; rfl
        | true => rw [if_neg (fun q => by rw [(meets_iff _ hn hi).mp q] at hb; cases hb)]; rfl
      rw [e2] at k9
      refine pn_iload (q := 91) dX7_node_89 rfl rfl ?_
      refine pn_aload_n (q := 92) dX7_node_91 rfl rfl rfl ?_
      refine pn_idV (q := 95) (bc9 := 0) (bs9 := 0) (m_many adK d Y P (0, a.2) b c e f g h) lkX7_232 dX7_node_92 rfl rfl (hM_cl) (hM_cl) (Nat.le_of_ble_eq_true rfl) rfl rfl rfl rfl rfl rfl (by omega) (by omega) (by omega) (Nat.le_of_ble_eq_true rfl) ?_
      first | refine pn_nge (q := 98) (tgt := 125) dX7_node_95 (by decide) rfl (by omega) (by omega) (fun hc95 => ?_) (fun hc95 => ?_) | refine pn_icmp_ge (q := 98) (tgt := 125) dX7_node_95 (by decide) rfl (fun hc95 => ?_) (fun hc95 => ?_)
      · omega
      · refine pn_iload_n (q := 99) dX7_node_98 rfl rfl ?_
        refine pn_aload_n (q := 100) dX7_node_99 rfl rfl rfl ?_
        refine pn_aload_n (q := 101) dX7_node_100 rfl rfl rfl ?_
        refine pn_get (q := 104) fX7_20 dX7_node_101 rfl rfl rfl ?_
        refine pn_bipush (q := 106) (v := nI 30) dX7_node_104 rfl (by decide) ?_
        refine pn_iload (q := 108) dX7_node_106 rfl rfl ?_
        first | with_reducible refine pn_iaddN (q := 109) dX7_node_108 rfl ?_ | refine pn_iadd (q := 109) dX7_node_108 rfl ?_
        refine pn_lald1 (q := 110) dX7_node_109 rfl rfl rfl (by omega) (by decide) ?_; rw [nowF_p]
        refine pn_idV (q := 113) (bc9 := 0) (bs9 := 0) (m_nodesOf adK d Y P (0, a.2) b c e f g h (Y.2.2.2.2.2.2.1 p) hn) lkX7_340 dX7_node_110 rfl rfl (hM_cl) (hM_cl) (Nat.le_of_ble_eq_true rfl) rfl rfl rfl rfl rfl rfl (by omega) (by omega) (by omega) (Nat.le_of_ble_eq_true rfl) ?_
        refine pn_iload_n (q := 114) dX7_node_113 rfl rfl ?_
        refine pn_ishr (q := 115) dX7_node_114 rfl ?_
        refine pn_iconst (q := 116) (v := nI 1) dX7_node_115 rfl (by decide) ?_
        refine pn_iand (q := 117) dX7_node_116 rfl ?_; rw [bit_nI _ (ndO_lt _ hn) i (by omega)]
        refine pn_iaddN (q := 118) dX7_node_117 rfl ?_
        refine pn_istore_n (q := 119) dX7_node_118 rfl (by decide) ?_
        first | refine pn_iinc1 (q := 122) dX7_node_119 rfl rfl (by decide) ?_ | refine pn_iinc (q := 122) (mm := 1) dX7_node_119 rfl rfl (by decide) (by decide) ?_
        refine pn_goto (q := 89) dX7_node_122 (by decide) ?_
        exact k9
  refine pn_aload_n (q := 1) dX7_node_0 rfl rfl rfl ?_
  refine pn_iconst (q := 2) (v := nI 0) dX7_node_1 rfl (by decide) ?_
  (refine pn_put (q := 5) fX7_63 dX7_node_2 rfl rfl (Nat.le_of_ble_eq_true rfl) (pnF_int _) ?_)
  refine pn_eq (h' := (hM Y P (0, a.2) b c e f g h)) (st' := _) rfl rfl ?_
  refine pn_aload_n (q := 6) dX7_node_5 rfl rfl rfl ?_
  refine pn_aload_n (q := 7) dX7_node_6 rfl rfl rfl ?_
  refine pn_iload_n (q := 8) dX7_node_7 rfl rfl ?_
  refine pn_idV (q := 11) (bc9 := 0) (bs9 := 0) (Cx) lkX7_333 dX7_node_8 rfl rfl (hM_cl) (hM_cl) (Nat.le_of_ble_eq_true rfl) rfl rfl rfl rfl rfl rfl (by omega) (by omega) (by omega) (Nat.le_of_ble_eq_true rfl) ?_
  refine pn_bne (q := 14) (tgt := 18) dX7_node_11 (by decide) rfl (fun hc11 => ?_) (fun hc11 => ?_)
  · refine pn_iconst (q := 19) (v := nB false) dX7_node_18 rfl (by decide) ?_
    refine pn_iconst (q := 20) (v := nI 1) dX7_node_19 rfl (by decide) ?_
    refine pn_iconst (q := 21) (v := nI 0) dX7_node_20 rfl (by decide) ?_
    refine pn_idV (q := 24) (bc9 := 0) (bs9 := 0) (m_badF adK d Y P (0, a.2) b c e f g h 1 0 rfl) lkX7_206 dX7_node_21 rfl rfl (hM_cl) (hM_cl) (Nat.le_of_ble_eq_true rfl) rfl rfl rfl rfl rfl rfl (by omega) (by omega) (by omega) (Nat.le_of_ble_eq_true rfl) ?_
    refine pn_bne (q := 27) (tgt := 53) dX7_node_24 (by decide) rfl (fun hc24 => ?_) (fun hc24 => ?_)
    · cases hc24
    · refine pn_aload_n (q := 28) dX7_node_27 rfl rfl rfl ?_
      refine pn_iload_n (q := 29) dX7_node_28 rfl rfl ?_
      refine pn_i2l (q := 30) dX7_node_29 rfl ?_
      refine pn_lconst (q := 31) (v := lN 0) dX7_node_30 rfl (by decide) ?_
      refine pn_ldc2 (q := 34) pw_1258 dX7_node_31 rfl ?_; refine pn_eq (h' := _) (st' := .long (lN 2) :: _) rfl rfl ?_
      refine pn_roS1 (q := 37) (C0) lkX7_92 dX7_node_34 rfl rfl (pnSel_of (I := []) rfl rfl) (pnFree_none rfl) rfl (by omega) (Nat.le_of_ble_eq_true rfl) rfl ?_
      refine pn_bne (q := 40) (tgt := 44) dX7_node_37 (by decide) rfl (fun hc37 => ?_) (fun hc37 => ?_)
      · refine pn_iconst (q := 45) (v := nB false) dX7_node_44 rfl (by decide) ?_
        refine pn_iconst (q := 46) (v := nI 2) dX7_node_45 rfl (by decide) ?_
        refine pn_iconst (q := 47) (v := nI 1) dX7_node_46 rfl (by decide) ?_
        refine pn_idV (q := 50) (bc9 := 0) (bs9 := 0) (m_badF adK d Y P (0, a.2) b c e f g h 2 1 rfl) lkX7_206 dX7_node_47 rfl rfl (hM_cl) (hM_cl) (Nat.le_of_ble_eq_true rfl) rfl rfl rfl rfl rfl rfl (by omega) (by omega) (by omega) (Nat.le_of_ble_eq_true rfl) ?_
        refine pn_beq (q := 53) (tgt := 55) dX7_node_50 (by decide) rfl (fun hc50 => ?_) (fun hc50 => ?_)
        · refine pn_iload_n (q := 56) dX7_node_55 rfl rfl ?_
          refine pn_iconst (q := 57) (v := nI 2) dX7_node_56 rfl (by decide) ?_
          first | refine pn_nge (q := 60) (tgt := 84) dX7_node_57 (by decide) rfl (by omega) (by omega) (fun hc57 => ?_) (fun hc57 => ?_) | refine pn_icmp_ge (q := 60) (tgt := 84) dX7_node_57 (by decide) rfl (fun hc57 => ?_) (fun hc57 => ?_)
          · omega
          · refine pn_aload_n (q := 61) dX7_node_60 rfl rfl rfl ?_
            refine pn_iload_n (q := 62) dX7_node_61 rfl rfl ?_
            first | refine pn_zne (q := 65) (tgt := 75) dX7_node_62 (by decide) rfl (by omega) (fun hc62 => ?_) (fun hc62 => ?_) | refine pn_if_ne (q := 65) (tgt := 75) dX7_node_62 (by decide) rfl (fun hc62 => ?_) (fun hc62 => ?_)
            · omega
            · refine pn_aload_n (q := 66) dX7_node_65 rfl rfl rfl ?_
              refine pn_get (q := 69) fX7_20 dX7_node_66 rfl rfl rfl ?_
              refine pn_bipush (q := 71) (v := nI 29) dX7_node_69 rfl (by decide) ?_
              (first | refine pn_lald1 (q := 72) dX7_node_71 rfl rfl rfl (by omega) (by first | decide | omega) ?_ | refine pn_lald5 (q := 72) dX7_node_71 rfl rfl rfl (by omega) (by first | decide | omega) ?_); refine pn_eq (h' := _) (st' := .long (Y.2.1) :: _) rfl rfl ?_
              refine pn_goto (q := 79) dX7_node_72 (by decide) ?_
              refine pn_iload_n (q := 80) dX7_node_79 rfl rfl ?_
              refine pn_idV (q := 83) (bc9 := 0) (bs9 := 0) (m_linesAt adK d Y P (0, a.2) b c e f g h _ i hn hi) lkX7_336 dX7_node_80 rfl rfl (hM_cl) (hM_cl) (Nat.le_of_ble_eq_true rfl) rfl rfl rfl rfl rfl rfl (by omega) (by omega) (by omega) (Nat.le_of_ble_eq_true rfl) ?_
              refine pn_iret dX7_node_83 rfl ?_
              exact ⟨rfl, rfl⟩
        · cases hc50
      · cases hc37
  · cases hc11
set_option maxRecDepth 100000 in
theorem m_node1 (adK : Nat → Nat) (d : Nat) (Y : MN) (P : Nat → MN) (a : G0) (b : G1) (c : G3) (e : G4) (f : G5) (g : G6) (h : G7) (i : Nat) (hn : Y.1 ≤ 11) (hpc : Y.2.2.2.2.1 ≤ 60) (hi : i < Y.1) : pnCt mX7_node adK (d + 3) 0 0 [.ref 0, .int (nI i), .int (nI 1)] (hM Y P a b c e f g h) (pnIs (.inl (some (.int (nI (laM (lfN Y.2.2.2.2.2.2.1 Y.2.1 Y.2.2.2.2.1) Y.1 i Y.1))))) (hM Y P (0, a.2) b c e f g h)) := by
  refine pnCt_of (by decide) kX7_node (Nat.le_of_ble_eq_true rfl) rfl hM_cl (pnCS_b rfl) ?_
  have Cx := m_isNode adK d Y P (0, a.2) b c e f g h (nI i) hn (by omega)
  rw [hasN_in hi (by omega)] at Cx
  have C0 := m_in adK d (nI 1).toInt64 (lN 0) (lN 2)
  rw [inL_has (by omega), hasN_in (by omega) (by omega)] at C0
  have loop : ∀ (z p : Nat), p + z = Y.2.2.2.2.1 → pnWP mX7_node adK (d + 3) (pnIs (.inl (some (.int (nI (pmN Y.2.2.2.2.2.2.1 (lasN Y.1 i Y.1) Y.2.2.2.2.1))))) (hM Y P (0, a.2) b c e f g h)) 0 0 (hM Y P (0, a.2) b c e f g h) [some (.ref 0), some (.int (nI i)), some (.int (nI 1)), some (.int (nI (pmN Y.2.2.2.2.2.2.1 (lasN Y.1 i Y.1) p))), some (.int (nI p))] [] 89 := by
    intro z
    induction z with
    | zero =>
      intro p hz
      refine pn_iload (q := 91) dX7_node_89 rfl rfl ?_
      refine pn_aload_n (q := 92) dX7_node_91 rfl rfl rfl ?_
      refine pn_idV (q := 95) (bc9 := 0) (bs9 := 0) (m_many adK d Y P (0, a.2) b c e f g h) lkX7_232 dX7_node_92 rfl rfl (hM_cl) (hM_cl) (Nat.le_of_ble_eq_true rfl) rfl rfl rfl rfl rfl rfl (by omega) (by omega) (by omega) (Nat.le_of_ble_eq_true rfl) ?_
      first | refine pn_nge (q := 98) (tgt := 125) dX7_node_95 (by decide) rfl (by omega) (by omega) (fun hc95 => ?_) (fun hc95 => ?_) | refine pn_icmp_ge (q := 98) (tgt := 125) dX7_node_95 (by decide) rfl (fun hc95 => ?_) (fun hc95 => ?_)
      · refine pn_iload_n (q := 126) dX7_node_125 rfl rfl ?_
        refine pn_iret dX7_node_126 rfl ?_
        exact ⟨by rw [show p = Y.2.2.2.2.1 by omega], rfl⟩
      · omega
    | succ z ih =>
      intro p hz
      have k9 := ih (p + 1) (by omega)
      have e2 : pmN Y.2.2.2.2.2.2.1 (lasN Y.1 i Y.1) (p + 1) = pmN Y.2.2.2.2.2.2.1 (lasN Y.1 i Y.1) p + ((ndO (Y.2.2.2.2.2.2.1 p) Y.1 Y.1).testBit i).toNat := by
        show (if Y.2.2.2.2.2.2.1 p &&& lasN Y.1 i Y.1 = 0 then pmN Y.2.2.2.2.2.2.1 (lasN Y.1 i Y.1) p else pmN Y.2.2.2.2.2.2.1 (lasN Y.1 i Y.1) p + 1) = _
        cases hb : (ndO (Y.2.2.2.2.2.2.1 p) Y.1 Y.1).testBit i with
        | false => rw [if_pos ((meets_iff _ hn hi).mpr hb)]; rfl
        | true => rw [if_neg (fun q => by rw [(meets_iff _ hn hi).mp q] at hb; cases hb)]; rfl
      rw [e2] at k9
      refine pn_iload (q := 91) dX7_node_89 rfl rfl ?_
      refine pn_aload_n (q := 92) dX7_node_91 rfl rfl rfl ?_
      refine pn_idV (q := 95) (bc9 := 0) (bs9 := 0) (m_many adK d Y P (0, a.2) b c e f g h) lkX7_232 dX7_node_92 rfl rfl (hM_cl) (hM_cl) (Nat.le_of_ble_eq_true rfl) rfl rfl rfl rfl rfl rfl (by omega) (by omega) (by omega) (Nat.le_of_ble_eq_true rfl) ?_
      first | refine pn_nge (q := 98) (tgt := 125) dX7_node_95 (by decide) rfl (by omega) (by omega) (fun hc95 => ?_) (fun hc95 => ?_) | refine pn_icmp_ge (q := 98) (tgt := 125) dX7_node_95 (by decide) rfl (fun hc95 => ?_) (fun hc95 => ?_)
      · omega
      · refine pn_iload_n (q := 99) dX7_node_98 rfl rfl ?_
        refine pn_aload_n (q := 100) dX7_node_99 rfl rfl rfl ?_
        refine pn_aload_n (q := 101) dX7_node_100 rfl rfl rfl ?_
        refine pn_get (q := 104) fX7_20 dX7_node_101 rfl rfl rfl ?_
        refine pn_bipush (q := 106) (v := nI 30) dX7_node_104 rfl (by decide) ?_
        refine pn_iload (q := 108) dX7_node_106 rfl rfl ?_
        first | with_reducible refine pn_iaddN (q := 109) dX7_node_108 rfl ?_ | refine pn_iadd (q := 109) dX7_node_108 rfl ?_
        refine pn_lald1 (q := 110) dX7_node_109 rfl rfl rfl (by omega) (by decide) ?_; rw [nowF_p]
        refine pn_idV (q := 113) (bc9 := 0) (bs9 := 0) (m_nodesOf adK d Y P (0, a.2) b c e f g h (Y.2.2.2.2.2.2.1 p) hn) lkX7_340 dX7_node_110 rfl rfl (hM_cl) (hM_cl) (Nat.le_of_ble_eq_true rfl) rfl rfl rfl rfl rfl rfl (by omega) (by omega) (by omega) (Nat.le_of_ble_eq_true rfl) ?_
        refine pn_iload_n (q := 114) dX7_node_113 rfl rfl ?_
        refine pn_ishr (q := 115) dX7_node_114 rfl ?_
        refine pn_iconst (q := 116) (v := nI 1) dX7_node_115 rfl (by decide) ?_
        refine pn_iand (q := 117) dX7_node_116 rfl ?_; rw [bit_nI _ (ndO_lt _ hn) i (by omega)]
        refine pn_iaddN (q := 118) dX7_node_117 rfl ?_
        refine pn_istore_n (q := 119) dX7_node_118 rfl (by decide) ?_
        first | refine pn_iinc1 (q := 122) dX7_node_119 rfl rfl (by decide) ?_ | refine pn_iinc (q := 122) (mm := 1) dX7_node_119 rfl rfl (by decide) (by decide) ?_
        refine pn_goto (q := 89) dX7_node_122 (by decide) ?_
        exact k9
  refine pn_aload_n (q := 1) dX7_node_0 rfl rfl rfl ?_
  refine pn_iconst (q := 2) (v := nI 0) dX7_node_1 rfl (by decide) ?_
  (refine pn_put (q := 5) fX7_63 dX7_node_2 rfl rfl (Nat.le_of_ble_eq_true rfl) (pnF_int _) ?_)
  refine pn_eq (h' := (hM Y P (0, a.2) b c e f g h)) (st' := _) rfl rfl ?_
  refine pn_aload_n (q := 6) dX7_node_5 rfl rfl rfl ?_
  refine pn_aload_n (q := 7) dX7_node_6 rfl rfl rfl ?_
  refine pn_iload_n (q := 8) dX7_node_7 rfl rfl ?_
  refine pn_idV (q := 11) (bc9 := 0) (bs9 := 0) (Cx) lkX7_333 dX7_node_8 rfl rfl (hM_cl) (hM_cl) (Nat.le_of_ble_eq_true rfl) rfl rfl rfl rfl rfl rfl (by omega) (by omega) (by omega) (Nat.le_of_ble_eq_true rfl) ?_
  refine pn_bne (q := 14) (tgt := 18) dX7_node_11 (by decide) rfl (fun hc11 => ?_) (fun hc11 => ?_)
  · refine pn_iconst (q := 19) (v := nB false) dX7_node_18 rfl (by decide) ?_
    refine pn_iconst (q := 20) (v := nI 1) dX7_node_19 rfl (by decide) ?_
    refine pn_iconst (q := 21) (v := nI 0) dX7_node_20 rfl (by decide) ?_
    refine pn_idV (q := 24) (bc9 := 0) (bs9 := 0) (m_badF adK d Y P (0, a.2) b c e f g h 1 0 rfl) lkX7_206 dX7_node_21 rfl rfl (hM_cl) (hM_cl) (Nat.le_of_ble_eq_true rfl) rfl rfl rfl rfl rfl rfl (by omega) (by omega) (by omega) (Nat.le_of_ble_eq_true rfl) ?_
    refine pn_bne (q := 27) (tgt := 53) dX7_node_24 (by decide) rfl (fun hc24 => ?_) (fun hc24 => ?_)
    · cases hc24
    · refine pn_aload_n (q := 28) dX7_node_27 rfl rfl rfl ?_
      refine pn_iload_n (q := 29) dX7_node_28 rfl rfl ?_
      refine pn_i2l (q := 30) dX7_node_29 rfl ?_
      refine pn_lconst (q := 31) (v := lN 0) dX7_node_30 rfl (by decide) ?_
      refine pn_ldc2 (q := 34) pw_1258 dX7_node_31 rfl ?_; refine pn_eq (h' := _) (st' := .long (lN 2) :: _) rfl rfl ?_
      refine pn_roS1 (q := 37) (C0) lkX7_92 dX7_node_34 rfl rfl (pnSel_of (I := []) rfl rfl) (pnFree_none rfl) rfl (by omega) (Nat.le_of_ble_eq_true rfl) rfl ?_
      refine pn_bne (q := 40) (tgt := 44) dX7_node_37 (by decide) rfl (fun hc37 => ?_) (fun hc37 => ?_)
      · refine pn_iconst (q := 45) (v := nB false) dX7_node_44 rfl (by decide) ?_
        refine pn_iconst (q := 46) (v := nI 2) dX7_node_45 rfl (by decide) ?_
        refine pn_iconst (q := 47) (v := nI 1) dX7_node_46 rfl (by decide) ?_
        refine pn_idV (q := 50) (bc9 := 0) (bs9 := 0) (m_badF adK d Y P (0, a.2) b c e f g h 2 1 rfl) lkX7_206 dX7_node_47 rfl rfl (hM_cl) (hM_cl) (Nat.le_of_ble_eq_true rfl) rfl rfl rfl rfl rfl rfl (by omega) (by omega) (by omega) (Nat.le_of_ble_eq_true rfl) ?_
        refine pn_beq (q := 53) (tgt := 55) dX7_node_50 (by decide) rfl (fun hc50 => ?_) (fun hc50 => ?_)
        · refine pn_iload_n (q := 56) dX7_node_55 rfl rfl ?_
          refine pn_iconst (q := 57) (v := nI 2) dX7_node_56 rfl (by decide) ?_
          first | refine pn_nge (q := 60) (tgt := 84) dX7_node_57 (by decide) rfl (by omega) (by omega) (fun hc57 => ?_) (fun hc57 => ?_) | refine pn_icmp_ge (q := 60) (tgt := 84) dX7_node_57 (by decide) rfl (fun hc57 => ?_) (fun hc57 => ?_)
          · omega
          · refine pn_aload_n (q := 61) dX7_node_60 rfl rfl rfl ?_
            refine pn_iload_n (q := 62) dX7_node_61 rfl rfl ?_
            first | refine pn_zne (q := 65) (tgt := 75) dX7_node_62 (by decide) rfl (by omega) (fun hc62 => ?_) (fun hc62 => ?_) | refine pn_if_ne (q := 65) (tgt := 75) dX7_node_62 (by decide) rfl (fun hc62 => ?_) (fun hc62 => ?_)
            · refine pn_aload_n (q := 76) dX7_node_75 rfl rfl rfl ?_
              refine pn_idV (q := 79) (bc9 := 0) (bs9 := 0) (m_leftNow adK d Y P (0, a.2) b c e f g h hpc) lkX7_225 dX7_node_76 rfl rfl (hM_cl) (hM_cl) (Nat.le_of_ble_eq_true rfl) rfl rfl rfl rfl rfl rfl (by omega) (by omega) (by omega) (Nat.le_of_ble_eq_true rfl) ?_
              refine pn_iload_n (q := 80) dX7_node_79 rfl rfl ?_
              refine pn_idV (q := 83) (bc9 := 0) (bs9 := 0) (m_linesAt adK d Y P (0, a.2) b c e f g h _ i hn hi) lkX7_336 dX7_node_80 rfl rfl (hM_cl) (hM_cl) (Nat.le_of_ble_eq_true rfl) rfl rfl rfl rfl rfl rfl (by omega) (by omega) (by omega) (Nat.le_of_ble_eq_true rfl) ?_
              refine pn_iret dX7_node_83 rfl ?_
              exact ⟨rfl, rfl⟩
            · omega
        · cases hc50
      · cases hc37
  · cases hc11
set_option maxRecDepth 100000 in
theorem m_node2 (adK : Nat → Nat) (d : Nat) (Y : MN) (P : Nat → MN) (a : G0) (b : G1) (c : G3) (e : G4) (f : G5) (g : G6) (h : G7) (i : Nat) (hn : Y.1 ≤ 11) (hpc : Y.2.2.2.2.1 ≤ 60) (hi : i < Y.1) : pnCt mX7_node adK (d + 3) 0 0 [.ref 0, .int (nI i), .int (nI 2)] (hM Y P a b c e f g h) (pnIs (.inl (some (.int (nI (pmN Y.2.2.2.2.2.2.1 (lasN Y.1 i Y.1) Y.2.2.2.2.1))))) (hM Y P (0, a.2) b c e f g h)) := by
  refine pnCt_of (by decide) kX7_node (Nat.le_of_ble_eq_true rfl) rfl hM_cl (pnCS_b rfl) ?_
  have Cx := m_isNode adK d Y P (0, a.2) b c e f g h (nI i) hn (by omega)
  rw [hasN_in hi (by omega)] at Cx
  have C0 := m_in adK d (nI 2).toInt64 (lN 0) (lN 2)
  rw [inL_has (by omega), hasN_in (by omega) (by omega)] at C0
  have loop : ∀ (z p : Nat), p + z = Y.2.2.2.2.1 → pnWP mX7_node adK (d + 3) (pnIs (.inl (some (.int (nI (pmN Y.2.2.2.2.2.2.1 (lasN Y.1 i Y.1) Y.2.2.2.2.1))))) (hM Y P (0, a.2) b c e f g h)) 0 0 (hM Y P (0, a.2) b c e f g h) [some (.ref 0), some (.int (nI i)), some (.int (nI 2)), some (.int (nI (pmN Y.2.2.2.2.2.2.1 (lasN Y.1 i Y.1) p))), some (.int (nI p))] [] 89 := by
    intro z
    induction z with
    | zero =>
      intro p hz
      refine pn_iload (q := 91) dX7_node_89 rfl rfl ?_
      refine pn_aload_n (q := 92) dX7_node_91 rfl rfl rfl ?_
      refine pn_idV (q := 95) (bc9 := 0) (bs9 := 0) (m_many adK d Y P (0, a.2) b c e f g h) lkX7_232 dX7_node_92 rfl rfl (hM_cl) (hM_cl) (Nat.le_of_ble_eq_true rfl) rfl rfl rfl rfl rfl rfl (by omega) (by omega) (by omega) (Nat.le_of_ble_eq_true rfl) ?_
      first | refine pn_nge (q := 98) (tgt := 125) dX7_node_95 (by decide) rfl (by omega) (by omega) (fun hc95 => ?_) (fun hc95 => ?_) | refine pn_icmp_ge (q := 98) (tgt := 125) dX7_node_95 (by decide) rfl (fun hc95 => ?_) (fun hc95 => ?_)
      · refine pn_iload_n (q := 126) dX7_node_125 rfl rfl ?_
        refine pn_iret dX7_node_126 rfl ?_
        exact ⟨by rw [show p = Y.2.2.2.2.1 by omega], rfl⟩
      · omega
    | succ z ih =>
      intro p hz
      have k9 := ih (p + 1) (by omega)
      have e2 : pmN Y.2.2.2.2.2.2.1 (lasN Y.1 i Y.1) (p + 1) = pmN Y.2.2.2.2.2.2.1 (lasN Y.1 i Y.1) p + ((ndO (Y.2.2.2.2.2.2.1 p) Y.1 Y.1).testBit i).toNat := by
        show (if Y.2.2.2.2.2.2.1 p &&& lasN Y.1 i Y.1 = 0 then pmN Y.2.2.2.2.2.2.1 (lasN Y.1 i Y.1) p else pmN Y.2.2.2.2.2.2.1 (lasN Y.1 i Y.1) p + 1) = _
        cases hb : (ndO (Y.2.2.2.2.2.2.1 p) Y.1 Y.1).testBit i with
        | false => rw [if_pos ((meets_iff _ hn hi).mpr hb)]; rfl
        | true => rw [if_neg (fun q => by rw [(meets_iff _ hn hi).mp q] at hb; cases hb)]; rfl
      rw [e2] at k9
      refine pn_iload (q := 91) dX7_node_89 rfl rfl ?_
      refine pn_aload_n (q := 92) dX7_node_91 rfl rfl rfl ?_
      refine pn_idV (q := 95) (bc9 := 0) (bs9 := 0) (m_many adK d Y P (0, a.2) b c e f g h) lkX7_232 dX7_node_92 rfl rfl (hM_cl) (hM_cl) (Nat.le_of_ble_eq_true rfl) rfl rfl rfl rfl rfl rfl (by omega) (by omega) (by omega) (Nat.le_of_ble_eq_true rfl) ?_
      first | refine pn_nge (q := 98) (tgt := 125) dX7_node_95 (by decide) rfl (by omega) (by omega) (fun hc95 => ?_) (fun hc95 => ?_) | refine pn_icmp_ge (q := 98) (tgt := 125) dX7_node_95 (by decide) rfl (fun hc95 => ?_) (fun hc95 => ?_)
      · omega
      · refine pn_iload_n (q := 99) dX7_node_98 rfl rfl ?_
        refine pn_aload_n (q := 100) dX7_node_99 rfl rfl rfl ?_
        refine pn_aload_n (q := 101) dX7_node_100 rfl rfl rfl ?_
        refine pn_get (q := 104) fX7_20 dX7_node_101 rfl rfl rfl ?_
        refine pn_bipush (q := 106) (v := nI 30) dX7_node_104 rfl (by decide) ?_
        refine pn_iload (q := 108) dX7_node_106 rfl rfl ?_
        first | with_reducible refine pn_iaddN (q := 109) dX7_node_108 rfl ?_ | refine pn_iadd (q := 109) dX7_node_108 rfl ?_
        refine pn_lald1 (q := 110) dX7_node_109 rfl rfl rfl (by omega) (by decide) ?_; rw [nowF_p]
        refine pn_idV (q := 113) (bc9 := 0) (bs9 := 0) (m_nodesOf adK d Y P (0, a.2) b c e f g h (Y.2.2.2.2.2.2.1 p) hn) lkX7_340 dX7_node_110 rfl rfl (hM_cl) (hM_cl) (Nat.le_of_ble_eq_true rfl) rfl rfl rfl rfl rfl rfl (by omega) (by omega) (by omega) (Nat.le_of_ble_eq_true rfl) ?_
        refine pn_iload_n (q := 114) dX7_node_113 rfl rfl ?_
        refine pn_ishr (q := 115) dX7_node_114 rfl ?_
        refine pn_iconst (q := 116) (v := nI 1) dX7_node_115 rfl (by decide) ?_
        refine pn_iand (q := 117) dX7_node_116 rfl ?_; rw [bit_nI _ (ndO_lt _ hn) i (by omega)]
        refine pn_iaddN (q := 118) dX7_node_117 rfl ?_
        refine pn_istore_n (q := 119) dX7_node_118 rfl (by decide) ?_
        first | refine pn_iinc1 (q := 122) dX7_node_119 rfl rfl (by decide) ?_ | refine pn_iinc (q := 122) (mm := 1) dX7_node_119 rfl rfl (by decide) (by decide) ?_
        refine pn_goto (q := 89) dX7_node_122 (by decide) ?_
        exact k9
  refine pn_aload_n (q := 1) dX7_node_0 rfl rfl rfl ?_
  refine pn_iconst (q := 2) (v := nI 0) dX7_node_1 rfl (by decide) ?_
  (refine pn_put (q := 5) fX7_63 dX7_node_2 rfl rfl (Nat.le_of_ble_eq_true rfl) (pnF_int _) ?_)
  refine pn_eq (h' := (hM Y P (0, a.2) b c e f g h)) (st' := _) rfl rfl ?_
  refine pn_aload_n (q := 6) dX7_node_5 rfl rfl rfl ?_
  refine pn_aload_n (q := 7) dX7_node_6 rfl rfl rfl ?_
  refine pn_iload_n (q := 8) dX7_node_7 rfl rfl ?_
  refine pn_idV (q := 11) (bc9 := 0) (bs9 := 0) (Cx) lkX7_333 dX7_node_8 rfl rfl (hM_cl) (hM_cl) (Nat.le_of_ble_eq_true rfl) rfl rfl rfl rfl rfl rfl (by omega) (by omega) (by omega) (Nat.le_of_ble_eq_true rfl) ?_
  refine pn_bne (q := 14) (tgt := 18) dX7_node_11 (by decide) rfl (fun hc11 => ?_) (fun hc11 => ?_)
  · refine pn_iconst (q := 19) (v := nB false) dX7_node_18 rfl (by decide) ?_
    refine pn_iconst (q := 20) (v := nI 1) dX7_node_19 rfl (by decide) ?_
    refine pn_iconst (q := 21) (v := nI 0) dX7_node_20 rfl (by decide) ?_
    refine pn_idV (q := 24) (bc9 := 0) (bs9 := 0) (m_badF adK d Y P (0, a.2) b c e f g h 1 0 rfl) lkX7_206 dX7_node_21 rfl rfl (hM_cl) (hM_cl) (Nat.le_of_ble_eq_true rfl) rfl rfl rfl rfl rfl rfl (by omega) (by omega) (by omega) (Nat.le_of_ble_eq_true rfl) ?_
    refine pn_bne (q := 27) (tgt := 53) dX7_node_24 (by decide) rfl (fun hc24 => ?_) (fun hc24 => ?_)
    · cases hc24
    · refine pn_aload_n (q := 28) dX7_node_27 rfl rfl rfl ?_
      refine pn_iload_n (q := 29) dX7_node_28 rfl rfl ?_
      refine pn_i2l (q := 30) dX7_node_29 rfl ?_
      refine pn_lconst (q := 31) (v := lN 0) dX7_node_30 rfl (by decide) ?_
      refine pn_ldc2 (q := 34) pw_1258 dX7_node_31 rfl ?_; refine pn_eq (h' := _) (st' := .long (lN 2) :: _) rfl rfl ?_
      refine pn_roS1 (q := 37) (C0) lkX7_92 dX7_node_34 rfl rfl (pnSel_of (I := []) rfl rfl) (pnFree_none rfl) rfl (by omega) (Nat.le_of_ble_eq_true rfl) rfl ?_
      refine pn_bne (q := 40) (tgt := 44) dX7_node_37 (by decide) rfl (fun hc37 => ?_) (fun hc37 => ?_)
      · refine pn_iconst (q := 45) (v := nB false) dX7_node_44 rfl (by decide) ?_
        refine pn_iconst (q := 46) (v := nI 2) dX7_node_45 rfl (by decide) ?_
        refine pn_iconst (q := 47) (v := nI 1) dX7_node_46 rfl (by decide) ?_
        refine pn_idV (q := 50) (bc9 := 0) (bs9 := 0) (m_badF adK d Y P (0, a.2) b c e f g h 2 1 rfl) lkX7_206 dX7_node_47 rfl rfl (hM_cl) (hM_cl) (Nat.le_of_ble_eq_true rfl) rfl rfl rfl rfl rfl rfl (by omega) (by omega) (by omega) (Nat.le_of_ble_eq_true rfl) ?_
        refine pn_beq (q := 53) (tgt := 55) dX7_node_50 (by decide) rfl (fun hc50 => ?_) (fun hc50 => ?_)
        · refine pn_iload_n (q := 56) dX7_node_55 rfl rfl ?_
          refine pn_iconst (q := 57) (v := nI 2) dX7_node_56 rfl (by decide) ?_
          first | refine pn_nge (q := 60) (tgt := 84) dX7_node_57 (by decide) rfl (by omega) (by omega) (fun hc57 => ?_) (fun hc57 => ?_) | refine pn_icmp_ge (q := 60) (tgt := 84) dX7_node_57 (by decide) rfl (fun hc57 => ?_) (fun hc57 => ?_)
          · refine pn_iconst (q := 85) (v := nI 0) dX7_node_84 rfl (by decide) ?_
            refine pn_istore_n (q := 86) dX7_node_85 rfl (by decide) ?_
            refine pn_iconst (q := 87) (v := nI 0) dX7_node_86 rfl (by decide) ?_
            refine pn_istore (q := 89) dX7_node_87 rfl (by decide) ?_
            exact loop Y.2.2.2.2.1 0 (by omega)
          · omega
        · cases hc50
      · cases hc37
  · cases hc11
/-! part -/
set_option maxRecDepth 100000 in
theorem m_partX (adK : Nat → Nat) (d : Nat) (Y : MN) (P : Nat → MN) (a : G0) (b : G1) (c : G3) (e : G4) (f : G5) (g : G6) (h : G7) (x y : Int32) (hpc : Y.2.2.2.2.1 ≤ 60) (hx : hasN Y.2.2.2.2.1 x = false) : pnCt mX7_part adK (d + 2) 0 0 [.ref 0, .int x, .int y] (hM Y P a b c e f g h) (pnIs (.inl (some (.int (nI 0)))) (hM Y P (bdA (0, a.2) 1 0) b c e f g h)) := by
  refine pnCt_of (by decide) kX7_part (Nat.le_of_ble_eq_true rfl) rfl hM_cl (pnCS_b rfl) ?_
  have Cx := m_isThere adK d Y P (0, a.2) b c e f g h x hpc
  rw [hx] at Cx
  refine pn_aload_n (q := 1) dX7_part_0 rfl rfl rfl ?_
  refine pn_iconst (q := 2) (v := nI 0) dX7_part_1 rfl (by decide) ?_
  (refine pn_put (q := 5) fX7_63 dX7_part_2 rfl rfl (Nat.le_of_ble_eq_true rfl) (pnF_int _) ?_)
  refine pn_eq (h' := (hM Y P (0, a.2) b c e f g h)) (st' := _) rfl rfl ?_
  refine pn_aload_n (q := 6) dX7_part_5 rfl rfl rfl ?_
  refine pn_aload_n (q := 7) dX7_part_6 rfl rfl rfl ?_
  refine pn_iload_n (q := 8) dX7_part_7 rfl rfl ?_
  refine pn_idV (q := 11) (bc9 := 0) (bs9 := 0) (Cx) lkX7_275 dX7_part_8 rfl rfl (hM_cl) (hM_cl) (Nat.le_of_ble_eq_true rfl) rfl rfl rfl rfl rfl rfl (by omega) (by omega) (by omega) (Nat.le_of_ble_eq_true rfl) ?_
  refine pn_bne (q := 14) (tgt := 18) dX7_part_11 (by decide) rfl (fun hc11 => ?_) (fun hc11 => ?_)
  · cases hc11
  · refine pn_iconst (q := 15) (v := nB true) dX7_part_14 rfl (by decide) ?_
    refine pn_goto (q := 19) dX7_part_15 (by decide) ?_
    refine pn_iconst (q := 20) (v := nI 1) dX7_part_19 rfl (by decide) ?_
    refine pn_iconst (q := 21) (v := nI 0) dX7_part_20 rfl (by decide) ?_
    refine pn_idV (q := 24) (bc9 := 0) (bs9 := 0) (m_badT adK d Y P (0, a.2) b c e f g h 1 0 rfl (by omega) (by omega) (by omega)) lkX7_206 dX7_part_21 rfl rfl (hM_cl) (hM_cl) (Nat.le_of_ble_eq_true rfl) rfl rfl rfl rfl rfl rfl (by omega) (by omega) (by omega) (Nat.le_of_ble_eq_true rfl) ?_
    refine pn_beq (q := 27) (tgt := 29) dX7_part_24 (by decide) rfl (fun hc24 => ?_) (fun hc24 => ?_)
    · cases hc24
    · refine pn_iconst (q := 28) (v := nI 0) dX7_part_27 rfl (by decide) ?_
      refine pn_iret dX7_part_28 rfl ?_
      exact ⟨rfl, rfl⟩
def ptM (x : Int64) (m : Nat) : Int32 := if clrN x m = 0 then -1 else nI (llN (clrN x m))
theorem clr_0 {x : Int64} {k : Nat} (h : clrN x k = 0) : ∀ m, clrN x (k + m) = 0
  | 0 => h
  | m + 1 => by
    show clrN x (k + m) &&& (clrN x (k + m) - 1) = 0
    rw [clr_0 h m]; exact Int64.zero_and
set_option maxRecDepth 100000 in
theorem m_part (adK : Nat → Nat) (d : Nat) (Y : MN) (P : Nat → MN) (a : G0) (b : G1) (c : G3) (e : G4) (f : G5) (g : G6) (h : G7) (p m : Nat) (hpc : Y.2.2.2.2.1 ≤ 60) (hp : p < Y.2.2.2.2.1) (hm : m < 2147483648) : pnCt mX7_part adK (d + 2) 0 0 [.ref 0, .int (nI p), .int (nI m)] (hM Y P a b c e f g h) (pnIs (.inl (some (.int (ptM (Y.2.2.2.2.2.2.1 p) m)))) (hM Y P (0, a.2) b c e f g h)) := by
  refine pnCt_of (by decide) kX7_part (Nat.le_of_ble_eq_true rfl) rfl hM_cl (pnCS_b rfl) ?_
  have Cx := m_isThere adK d Y P (0, a.2) b c e f g h (nI p) hpc
  rw [hasN_in hp (by omega)] at Cx
  have fin : ∀ (k : Nat) (L9 : List (Option Value)), k ≤ m → (k = m ∨ clrN (Y.2.2.2.2.2.2.1 p) k = 0) → pnWP mX7_part adK (d + 2) (pnIs (.inl (some (.int (ptM (Y.2.2.2.2.2.2.1 p) m)))) (hM Y P (0, a.2) b c e f g h)) 0 0 (hM Y P (0, a.2) b c e f g h) [some (.ref 0), some (.int (nI p)), some (.int (nI m)), some (.long (clrN (Y.2.2.2.2.2.2.1 p) k)), none, some (.int (nI k))] [] 66 := by
    intro k L9 hkm hk
    by_cases h0 : clrN (Y.2.2.2.2.2.2.1 p) k = 0
    · have e9 : ptM (Y.2.2.2.2.2.2.1 p) m = -1 := if_pos (by have := clr_0 h0 (m - k); rw [show k + (m - k) = m by omega] at this; exact this)
      rw [e9]
      refine pn_iload_n (q := 67) dX7_part_66 rfl rfl ?_
      first | refine pn_zlt (q := 70) (tgt := 76) dX7_part_67 (by decide) rfl (by omega) (fun hc67 => ?_) (fun hc67 => ?_) | refine pn_if_lt (q := 70) (tgt := 76) dX7_part_67 (by decide) rfl (fun hc67 => ?_) (fun hc67 => ?_)
      · exact hc67.elim
      · refine pn_lload_n (q := 71) dX7_part_70 rfl rfl ?_
        refine pn_lconst (q := 72) (v := lN 0) dX7_part_71 rfl (by decide) ?_
        refine pn_lne (q1 := 73) (q := 76) (tgt := 80) dX7_part_72 rfl dX7_part_73 (by decide) rfl (fun hc72 => ?_) (fun hc72 => ?_)
        · exact (hc72 h0).elim
        · refine pn_iconst (q := 77) (v := (-1)) dX7_part_76 rfl (by decide) ?_
          refine pn_goto (q := 84) dX7_part_77 (by decide) ?_
          refine pn_iret dX7_part_84 rfl ?_
          exact ⟨rfl, rfl⟩
    · have e8 : k = m := by rcases hk with q | q; exact q; exact (h0 q).elim
      subst e8
      have e9 : ptM (Y.2.2.2.2.2.2.1 p) k = nI (llN (clrN (Y.2.2.2.2.2.2.1 p) k)) := if_neg h0
      rw [e9]
      refine pn_iload_n (q := 67) dX7_part_66 rfl rfl ?_
      first | refine pn_zlt (q := 70) (tgt := 76) dX7_part_67 (by decide) rfl (by omega) (fun hc67 => ?_) (fun hc67 => ?_) | refine pn_if_lt (q := 70) (tgt := 76) dX7_part_67 (by decide) rfl (fun hc67 => ?_) (fun hc67 => ?_)
      · exact hc67.elim
      · refine pn_lload_n (q := 71) dX7_part_70 rfl rfl ?_
        refine pn_lconst (q := 72) (v := lN 0) dX7_part_71 rfl (by decide) ?_
        refine pn_lne (q1 := 73) (q := 76) (tgt := 80) dX7_part_72 rfl dX7_part_73 (by decide) rfl (fun hc72 => ?_) (fun hc72 => ?_)
        · refine pn_lload_n (q := 81) dX7_part_80 rfl rfl ?_
          refine pn_roS1 (q := 84) (m_least adK d (clrN (Y.2.2.2.2.2.2.1 p) k) h0) lkX7_82 dX7_part_81 rfl rfl (pnSel_of (I := []) rfl rfl) (pnFree_none rfl) rfl (by omega) (Nat.le_of_ble_eq_true rfl) rfl ?_
          refine pn_iret dX7_part_84 rfl ?_
          exact ⟨rfl, rfl⟩
        · exact (h0 hc72).elim
  have loop : ∀ (z k : Nat), k + z = m → pnWP mX7_part adK (d + 2) (pnIs (.inl (some (.int (ptM (Y.2.2.2.2.2.2.1 p) m)))) (hM Y P (0, a.2) b c e f g h)) 0 0 (hM Y P (0, a.2) b c e f g h) [some (.ref 0), some (.int (nI p)), some (.int (nI m)), some (.long (clrN (Y.2.2.2.2.2.2.1 p) k)), none, some (.int (nI k))] [] 42 := by
    intro z
    induction z with
    | zero =>
      intro k hz
      refine pn_iload (q := 44) dX7_part_42 rfl rfl ?_
      refine pn_iload_n (q := 45) dX7_part_44 rfl rfl ?_
      first | refine pn_nge (q := 48) (tgt := 66) dX7_part_45 (by decide) rfl (by omega) (by omega) (fun hc45 => ?_) (fun hc45 => ?_) | refine pn_icmp_ge (q := 48) (tgt := 66) dX7_part_45 (by decide) rfl (fun hc45 => ?_) (fun hc45 => ?_)
      · exact fin k [] (by omega) (Or.inl (by omega))
      · omega
    | succ z ih =>
      intro k hz
      by_cases h0 : clrN (Y.2.2.2.2.2.2.1 p) k = 0
      · refine pn_iload (q := 44) dX7_part_42 rfl rfl ?_
        refine pn_iload_n (q := 45) dX7_part_44 rfl rfl ?_
        first | refine pn_nge (q := 48) (tgt := 66) dX7_part_45 (by decide) rfl (by omega) (by omega) (fun hc45 => ?_) (fun hc45 => ?_) | refine pn_icmp_ge (q := 48) (tgt := 66) dX7_part_45 (by decide) rfl (fun hc45 => ?_) (fun hc45 => ?_)
        · omega
        · refine pn_lload_n (q := 49) dX7_part_48 rfl rfl ?_
          refine pn_lconst (q := 50) (v := lN 0) dX7_part_49 rfl (by decide) ?_
          refine pn_leq (q1 := 51) (q := 54) (tgt := 66) dX7_part_50 rfl dX7_part_51 (by decide) rfl (fun hc50 => ?_) (fun hc50 => ?_)
          · exact fin k [] (by omega) (Or.inr h0)
          · exact (hc50 h0).elim
      · refine pn_iload (q := 44) dX7_part_42 rfl rfl ?_
        refine pn_iload_n (q := 45) dX7_part_44 rfl rfl ?_
        first | refine pn_nge (q := 48) (tgt := 66) dX7_part_45 (by decide) rfl (by omega) (by omega) (fun hc45 => ?_) (fun hc45 => ?_) | refine pn_icmp_ge (q := 48) (tgt := 66) dX7_part_45 (by decide) rfl (fun hc45 => ?_) (fun hc45 => ?_)
        · omega
        · refine pn_lload_n (q := 49) dX7_part_48 rfl rfl ?_
          refine pn_lconst (q := 50) (v := lN 0) dX7_part_49 rfl (by decide) ?_
          refine pn_leq (q1 := 51) (q := 54) (tgt := 66) dX7_part_50 rfl dX7_part_51 (by decide) rfl (fun hc50 => ?_) (fun hc50 => ?_)
          · exact (h0 hc50).elim
          · refine pn_lload_n (q := 55) dX7_part_54 rfl rfl ?_
            refine pn_lload_n (q := 56) dX7_part_55 rfl rfl ?_
            refine pn_lconst (q := 57) (v := lN 1) dX7_part_56 rfl (by decide) ?_
            first | with_reducible refine pn_lsubN (q := 58) dX7_part_57 rfl (by omega) ?_ | refine pn_lsub (q := 58) dX7_part_57 rfl ?_
            refine pn_land (q := 59) dX7_part_58 rfl ?_
            refine pn_lstore_n (q := 60) dX7_part_59 rfl (by decide) ?_
            first | refine pn_iinc1 (q := 63) dX7_part_60 rfl rfl (by decide) ?_ | refine pn_iinc (q := 63) (mm := 1) dX7_part_60 rfl rfl (by decide) (by decide) ?_
            refine pn_goto (q := 42) dX7_part_63 (by decide) ?_
            exact ih (k + 1) (by omega)
  refine pn_aload_n (q := 1) dX7_part_0 rfl rfl rfl ?_
  refine pn_iconst (q := 2) (v := nI 0) dX7_part_1 rfl (by decide) ?_
  (refine pn_put (q := 5) fX7_63 dX7_part_2 rfl rfl (Nat.le_of_ble_eq_true rfl) (pnF_int _) ?_)
  refine pn_eq (h' := (hM Y P (0, a.2) b c e f g h)) (st' := _) rfl rfl ?_
  refine pn_aload_n (q := 6) dX7_part_5 rfl rfl rfl ?_
  refine pn_aload_n (q := 7) dX7_part_6 rfl rfl rfl ?_
  refine pn_iload_n (q := 8) dX7_part_7 rfl rfl ?_
  refine pn_idV (q := 11) (bc9 := 0) (bs9 := 0) (Cx) lkX7_275 dX7_part_8 rfl rfl (hM_cl) (hM_cl) (Nat.le_of_ble_eq_true rfl) rfl rfl rfl rfl rfl rfl (by omega) (by omega) (by omega) (Nat.le_of_ble_eq_true rfl) ?_
  refine pn_bne (q := 14) (tgt := 18) dX7_part_11 (by decide) rfl (fun hc11 => ?_) (fun hc11 => ?_)
  · refine pn_iconst (q := 19) (v := nB false) dX7_part_18 rfl (by decide) ?_
    refine pn_iconst (q := 20) (v := nI 1) dX7_part_19 rfl (by decide) ?_
    refine pn_iconst (q := 21) (v := nI 0) dX7_part_20 rfl (by decide) ?_
    refine pn_idV (q := 24) (bc9 := 0) (bs9 := 0) (m_badF adK d Y P (0, a.2) b c e f g h 1 0 rfl) lkX7_206 dX7_part_21 rfl rfl (hM_cl) (hM_cl) (Nat.le_of_ble_eq_true rfl) rfl rfl rfl rfl rfl rfl (by omega) (by omega) (by omega) (Nat.le_of_ble_eq_true rfl) ?_
    refine pn_beq (q := 27) (tgt := 29) dX7_part_24 (by decide) rfl (fun hc24 => ?_) (fun hc24 => ?_)
    · refine pn_aload_n (q := 30) dX7_part_29 rfl rfl rfl ?_
      refine pn_get (q := 33) fX7_20 dX7_part_30 rfl rfl rfl ?_
      refine pn_bipush (q := 35) (v := nI 30) dX7_part_33 rfl (by decide) ?_
      refine pn_iload_n (q := 36) dX7_part_35 rfl rfl ?_
      first | with_reducible refine pn_iaddN (q := 37) dX7_part_36 rfl ?_ | refine pn_iadd (q := 37) dX7_part_36 rfl ?_
      refine pn_lald1 (q := 38) dX7_part_37 rfl rfl rfl (by omega) (by decide) ?_; rw [nowF_p]
      refine pn_lstore_n (q := 39) dX7_part_38 rfl (by decide) ?_
      refine pn_iconst (q := 40) (v := nI 0) dX7_part_39 rfl (by decide) ?_
      refine pn_istore (q := 42) dX7_part_40 rfl (by decide) ?_
      exact loop m 0 (by omega)
    · cases hc24
  · cases hc11
set_option maxRecDepth 100000 in
theorem m_partN (adK : Nat → Nat) (d : Nat) (Y : MN) (P : Nat → MN) (a : G0) (b : G1) (c : G3) (e : G4) (f : G5) (g : G6) (h : G7) (p : Nat) (y : Int32) (hpc : Y.2.2.2.2.1 ≤ 60) (hp : p < Y.2.2.2.2.1) (hy : y < 0) : pnCt mX7_part adK (d + 2) 0 0 [.ref 0, .int (nI p), .int y] (hM Y P a b c e f g h) (pnIs (.inl (some (.int (-1)))) (hM Y P (0, a.2) b c e f g h)) := by
  refine pnCt_of (by decide) kX7_part (Nat.le_of_ble_eq_true rfl) rfl hM_cl (pnCS_b rfl) ?_
  have Cx := m_isThere adK d Y P (0, a.2) b c e f g h (nI p) hpc
  rw [hasN_in hp (by omega)] at Cx
  refine pn_aload_n (q := 1) dX7_part_0 rfl rfl rfl ?_
  refine pn_iconst (q := 2) (v := nI 0) dX7_part_1 rfl (by decide) ?_
  (refine pn_put (q := 5) fX7_63 dX7_part_2 rfl rfl (Nat.le_of_ble_eq_true rfl) (pnF_int _) ?_)
  refine pn_eq (h' := (hM Y P (0, a.2) b c e f g h)) (st' := _) rfl rfl ?_
  refine pn_aload_n (q := 6) dX7_part_5 rfl rfl rfl ?_
  refine pn_aload_n (q := 7) dX7_part_6 rfl rfl rfl ?_
  refine pn_iload_n (q := 8) dX7_part_7 rfl rfl ?_
  refine pn_idV (q := 11) (bc9 := 0) (bs9 := 0) (Cx) lkX7_275 dX7_part_8 rfl rfl (hM_cl) (hM_cl) (Nat.le_of_ble_eq_true rfl) rfl rfl rfl rfl rfl rfl (by omega) (by omega) (by omega) (Nat.le_of_ble_eq_true rfl) ?_
  refine pn_bne (q := 14) (tgt := 18) dX7_part_11 (by decide) rfl (fun hc11 => ?_) (fun hc11 => ?_)
  · refine pn_iconst (q := 19) (v := nB false) dX7_part_18 rfl (by decide) ?_
    refine pn_iconst (q := 20) (v := nI 1) dX7_part_19 rfl (by decide) ?_
    refine pn_iconst (q := 21) (v := nI 0) dX7_part_20 rfl (by decide) ?_
    refine pn_idV (q := 24) (bc9 := 0) (bs9 := 0) (m_badF adK d Y P (0, a.2) b c e f g h 1 0 rfl) lkX7_206 dX7_part_21 rfl rfl (hM_cl) (hM_cl) (Nat.le_of_ble_eq_true rfl) rfl rfl rfl rfl rfl rfl (by omega) (by omega) (by omega) (Nat.le_of_ble_eq_true rfl) ?_
    refine pn_beq (q := 27) (tgt := 29) dX7_part_24 (by decide) rfl (fun hc24 => ?_) (fun hc24 => ?_)
    · refine pn_aload_n (q := 30) dX7_part_29 rfl rfl rfl ?_
      refine pn_get (q := 33) fX7_20 dX7_part_30 rfl rfl rfl ?_
      refine pn_bipush (q := 35) (v := nI 30) dX7_part_33 rfl (by decide) ?_
      refine pn_iload_n (q := 36) dX7_part_35 rfl rfl ?_
      first | with_reducible refine pn_iaddN (q := 37) dX7_part_36 rfl ?_ | refine pn_iadd (q := 37) dX7_part_36 rfl ?_
      refine pn_lald1 (q := 38) dX7_part_37 rfl rfl rfl (by omega) (by decide) ?_; rw [nowF_p]
      refine pn_lstore_n (q := 39) dX7_part_38 rfl (by decide) ?_
      refine pn_iconst (q := 40) (v := nI 0) dX7_part_39 rfl (by decide) ?_
      refine pn_istore (q := 42) dX7_part_40 rfl (by decide) ?_
      refine pn_iload (q := 44) dX7_part_42 rfl rfl ?_
      refine pn_iload_n (q := 45) dX7_part_44 rfl rfl ?_
      refine pn_icmp_ge (q := 48) (tgt := 66) dX7_part_45 (by decide) rfl (fun hc45 => ?_) (fun hc45 => ?_)
      · refine pn_iload_n (q := 67) dX7_part_66 rfl rfl ?_
        refine pn_if_lt (q := 70) (tgt := 76) dX7_part_67 (by decide) rfl (fun hc67 => ?_) (fun hc67 => ?_)
        · refine pn_iconst (q := 77) (v := (-1)) dX7_part_76 rfl (by decide) ?_
          refine pn_goto (q := 84) dX7_part_77 (by decide) ?_
          refine pn_iret dX7_part_84 rfl ?_
          exact ⟨rfl, rfl⟩
        · exact (hc67 hy).elim
      · (rw [Int32.lt_iff_toInt_lt] at hy; rw [Int32.le_iff_toInt_le, nI_toInt (by omega)] at hc45; have e0 : (0 : Int32).toInt = 0 := rfl; omega)
    · cases hc24
  · cases hc11
