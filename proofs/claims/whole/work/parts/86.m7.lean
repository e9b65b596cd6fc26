/-! tests -/
def odM (x : Int64) (n : Nat) : Nat → Bool
  | 0 => false
  | a + 1 => odM x n a || decide (laM x n a n % 2 = 1)
set_option maxRecDepth 100000 in
theorem m_tests (adK : Nat → Nat) (d : Nat) (Y : MN) (P : Nat → MN) (a : G0) (b : G1) (c : G3) (e : G4) (f : G5) (g : G6) (h : G7) (hn : Y.1 ≤ 11) (hpc : Y.2.2.2.2.1 ≤ 60) (hS : shOk Y.2.2.1 Y.2.2.2.1) (h55 : ok55 (lfN Y.2.2.2.2.2.2.1 Y.2.1 Y.2.2.2.2.1)) : pnCt mX7_tests adK (d + 3) 0 0 [.ref 0] (hM Y P a b c e f g h) (pnIs (.inl (some (.int (nI (tsN (decide (pcN (lfN Y.2.2.2.2.2.2.1 Y.2.1 Y.2.2.2.2.1) % Y.2.2.2.1 ≠ 0)) (clN Y.2.2.1 && odM (lfN Y.2.2.2.2.2.2.1 Y.2.1 Y.2.2.2.2.1) Y.1 Y.1)))))) (hM Y P (0, a.2) b c e f g h)) := by
  refine pnCt_of (by decide) kX7_tests (Nat.le_of_ble_eq_true rfl) rfl hM_cl (pnCS_b rfl) ?_
  have hk : 1 ≤ Y.2.2.2.1 := by unfold shOk at hS; omega
  have hk5 : Y.2.2.2.1 ≤ 5 := by unfold shOk at hS; omega
  have hp9 := (bcI_eq (lfN Y.2.2.2.2.2.2.1 Y.2.1 Y.2.2.2.2.1)).2
  have CO := m_ones adK d (lfN Y.2.2.2.2.2.2.1 Y.2.1 Y.2.2.2.2.1)
  rw [ones_pc h55] at CO
  have loop : ∀ (u : Bool) (z i : Nat), i + z = Y.1 → clN Y.2.2.1 = true → pnWP mX7_tests adK (d + 3) (pnIs (.inl (some (.int (nI (tsN u (clN Y.2.2.1 && odM (lfN Y.2.2.2.2.2.2.1 Y.2.1 Y.2.2.2.2.1) Y.1 Y.1)))))) (hM Y P (0, a.2) b c e f g h)) 0 0 (hM Y P (0, a.2) b c e f g h) [some (.ref 0), some (.long (lfN Y.2.2.2.2.2.2.1 Y.2.1 Y.2.2.2.2.1)), none, some (.int (nI (tsN u (odM (lfN Y.2.2.2.2.2.2.1 Y.2.1 Y.2.2.2.2.1) Y.1 i)))), some (.int (nI i))] [] 60 := by
    intro u z
    induction z with
    | zero =>
      intro i hz hcl
      refine pn_iload (q := 62) dX7_tests_60 rfl rfl ?_
      first | with_reducible refine pn_i2lN (q := 63) dX7_tests_62 rfl (by omega) ?_ | refine pn_i2l (q := 63) dX7_tests_62 rfl ?_
      refine pn_aload_n (q := 64) dX7_tests_63 rfl rfl rfl ?_
      refine pn_get (q := 67) fX7_20 dX7_tests_64 rfl rfl rfl ?_
      refine pn_iconst (q := 68) (v := nI 0) dX7_tests_67 rfl (by decide) ?_
      (first | refine pn_lald1 (q := 69) dX7_tests_68 rfl rfl rfl (by omega) (by first | decide | omega) ?_ | refine pn_lald5 (q := 69) dX7_tests_68 rfl rfl rfl (by omega) (by first | decide | omega) ?_); refine pn_eq (h' := _) (st' := .long (lN Y.1) :: _) rfl rfl ?_
      refine pn_lge (q1 := 70) (q := 73) (tgt := 100) dX7_tests_69 rfl dX7_tests_70 (by decide) rfl (fun hc69 => ?_) (fun hc69 => ?_)
      · refine pn_iload_n (q := 101) dX7_tests_100 rfl rfl ?_
        refine pn_iret dX7_tests_101 rfl ?_
        exact ⟨by rw [show i = Y.1 by omega, hcl]; rfl, rfl⟩
      · exact (hc69 ((lN_leI (by omega) (by omega)).mpr (by omega))).elim
    | succ z ih =>
      intro i hz hcl
      have k9 := ih (i + 1) (by omega) hcl
      have e2 : odM (lfN Y.2.2.2.2.2.2.1 Y.2.1 Y.2.2.2.2.1) Y.1 (i + 1) = (odM (lfN Y.2.2.2.2.2.2.1 Y.2.1 Y.2.2.2.2.1) Y.1 i || decide (laM (lfN Y.2.2.2.2.2.2.1 Y.2.1 Y.2.2.2.2.1) Y.1 i Y.1 % 2 = 1)) := rfl
      rw [e2] at k9
      have hla := laM_le (lfN Y.2.2.2.2.2.2.1 Y.2.1 Y.2.2.2.2.1) Y.1 i Y.1
      have hm2 : laM (lfN Y.2.2.2.2.2.2.1 Y.2.1 Y.2.2.2.2.1) Y.1 i Y.1 % 2 < 2 := Nat.mod_lt _ (by omega)
      refine pn_iload (q := 62) dX7_tests_60 rfl rfl ?_
      first | with_reducible refine pn_i2lN (q := 63) dX7_tests_62 rfl (by omega) ?_ | refine pn_i2l (q := 63) dX7_tests_62 rfl ?_
      refine pn_aload_n (q := 64) dX7_tests_63 rfl rfl rfl ?_
      refine pn_get (q := 67) fX7_20 dX7_tests_64 rfl rfl rfl ?_
      refine pn_iconst (q := 68) (v := nI 0) dX7_tests_67 rfl (by decide) ?_
      (first | refine pn_lald1 (q := 69) dX7_tests_68 rfl rfl rfl (by omega) (by first | decide | omega) ?_ | refine pn_lald5 (q := 69) dX7_tests_68 rfl rfl rfl (by omega) (by first | decide | omega) ?_); refine pn_eq (h' := _) (st' := .long (lN Y.1) :: _) rfl rfl ?_
      refine pn_lge (q1 := 70) (q := 73) (tgt := 100) dX7_tests_69 rfl dX7_tests_70 (by decide) rfl (fun hc69 => ?_) (fun hc69 => ?_)
      · (rw [lN_leI (by omega) (by omega)] at hc69; omega)
      · refine pn_iload_n (q := 74) dX7_tests_73 rfl rfl ?_
        refine pn_aload_n (q := 75) dX7_tests_74 rfl rfl rfl ?_
        refine pn_lload_n (q := 76) dX7_tests_75 rfl rfl ?_
        refine pn_iload (q := 78) dX7_tests_76 rfl rfl ?_
        refine pn_idV (q := 81) (bc9 := 0) (bs9 := 0) (m_linesAt adK d Y P (0, a.2) b c e f g h (lfN Y.2.2.2.2.2.2.1 Y.2.1 Y.2.2.2.2.1) i hn (by omega)) lkX7_336 dX7_tests_78 rfl rfl (hM_cl) (hM_cl) (Nat.le_of_ble_eq_true rfl) rfl rfl rfl rfl rfl rfl (by omega) (by omega) (by omega) (Nat.le_of_ble_eq_true rfl) ?_
        refine pn_iconst (q := 82) (v := nI 2) dX7_tests_81 rfl (by decide) ?_
        refine pn_iremN (q := 83) dX7_tests_82 rfl (by omega) ?_
        refine pn_iconst (q := 84) (v := nI 1) dX7_tests_83 rfl (by decide) ?_
        first | refine pn_nne (q := 87) (tgt := 91) dX7_tests_84 (by decide) rfl (by omega) (by omega) (fun hc84 => ?_) (fun hc84 => ?_) | refine pn_icmp_ne (q := 87) (tgt := 91) dX7_tests_84 (by decide) rfl (fun hc84 => ?_) (fun hc84 => ?_)
        · refine pn_iconst (q := 92) (v := nI 0) dX7_tests_91 rfl (by decide) ?_
          refine pn_ior (q := 93) dX7_tests_92 rfl ?_; rw [nI_or]
          refine pn_istore_n (q := 94) dX7_tests_93 rfl (by decide) ?_
          first | refine pn_iinc1 (q := 97) dX7_tests_94 rfl rfl (by decide) ?_ | refine pn_iinc (q := 97) (mm := 1) dX7_tests_94 rfl rfl (by decide) (by decide) ?_
          refine pn_goto (q := 60) dX7_tests_97 (by decide) ?_
          (first | (rw [decide_eq_true (by omega : laM (lfN Y.2.2.2.2.2.2.1 Y.2.1 Y.2.2.2.2.1) Y.1 i Y.1 % 2 = 1), show tsN u (odM (lfN Y.2.2.2.2.2.2.1 Y.2.1 Y.2.2.2.2.1) Y.1 i || true) = tsN u (odM (lfN Y.2.2.2.2.2.2.1 Y.2.1 Y.2.2.2.2.1) Y.1 i) ||| 2 by cases u <;> cases odM (lfN Y.2.2.2.2.2.2.1 Y.2.1 Y.2.2.2.2.1) Y.1 i <;> rfl] at k9; exact k9) | (rw [decide_eq_false (by omega : ¬ laM (lfN Y.2.2.2.2.2.2.1 Y.2.1 Y.2.2.2.2.1) Y.1 i Y.1 % 2 = 1), show tsN u (odM (lfN Y.2.2.2.2.2.2.1 Y.2.1 Y.2.2.2.2.1) Y.1 i || false) = tsN u (odM (lfN Y.2.2.2.2.2.2.1 Y.2.1 Y.2.2.2.2.1) Y.1 i) ||| 0 by cases u <;> cases odM (lfN Y.2.2.2.2.2.2.1 Y.2.1 Y.2.2.2.2.1) Y.1 i <;> rfl] at k9; exact k9))
        · refine pn_iconst (q := 88) (v := nI 2) dX7_tests_87 rfl (by decide) ?_
          refine pn_goto (q := 92) dX7_tests_88 (by decide) ?_
          refine pn_ior (q := 93) dX7_tests_92 rfl ?_; rw [nI_or]
          refine pn_istore_n (q := 94) dX7_tests_93 rfl (by decide) ?_
          first | refine pn_iinc1 (q := 97) dX7_tests_94 rfl rfl (by decide) ?_ | refine pn_iinc (q := 97) (mm := 1) dX7_tests_94 rfl rfl (by decide) (by decide) ?_
          refine pn_goto (q := 60) dX7_tests_97 (by decide) ?_
          (first | (rw [decide_eq_true (by omega : laM (lfN Y.2.2.2.2.2.2.1 Y.2.1 Y.2.2.2.2.1) Y.1 i Y.1 % 2 = 1), show tsN u (odM (lfN Y.2.2.2.2.2.2.1 Y.2.1 Y.2.2.2.2.1) Y.1 i || true) = tsN u (odM (lfN Y.2.2.2.2.2.2.1 Y.2.1 Y.2.2.2.2.1) Y.1 i) ||| 2 by cases u <;> cases odM (lfN Y.2.2.2.2.2.2.1 Y.2.1 Y.2.2.2.2.1) Y.1 i <;> rfl] at k9; exact k9) | (rw [decide_eq_false (by omega : ¬ laM (lfN Y.2.2.2.2.2.2.1 Y.2.1 Y.2.2.2.2.1) Y.1 i Y.1 % 2 = 1), show tsN u (odM (lfN Y.2.2.2.2.2.2.1 Y.2.1 Y.2.2.2.2.1) Y.1 i || false) = tsN u (odM (lfN Y.2.2.2.2.2.2.1 Y.2.1 Y.2.2.2.2.1) Y.1 i) ||| 0 by cases u <;> cases odM (lfN Y.2.2.2.2.2.2.1 Y.2.1 Y.2.2.2.2.1) Y.1 i <;> rfl] at k9; exact k9))
  have key : ∀ (u : Bool), pnWP mX7_tests adK (d + 3) (pnIs (.inl (some (.int (nI (tsN u (clN Y.2.2.1 && odM (lfN Y.2.2.2.2.2.2.1 Y.2.1 Y.2.2.2.2.1) Y.1 Y.1)))))) (hM Y P (0, a.2) b c e f g h)) 0 0 (hM Y P (0, a.2) b c e f g h) [some (.ref 0), some (.long (lfN Y.2.2.2.2.2.2.1 Y.2.1 Y.2.2.2.2.1)), none, some (.int (nI u.toNat))] [] 31 := by
    intro u
    have hs4 : Y.2.2.1 ≤ 3 := by unfold shOk at hS; omega
    have eu : nI u.toNat = nI (tsN u false) := by cases u <;> rfl
    by_cases h1 : Y.2.2.1 = 1
    · have hcl : clN Y.2.2.1 = false := by rw [h1]; rfl
      rw [hcl]
      refine pn_aload_n (q := 32) dX7_tests_31 rfl rfl rfl ?_
      refine pn_get (q := 35) fX7_20 dX7_tests_32 rfl rfl rfl ?_
      refine pn_iconst (q := 36) (v := nI 1) dX7_tests_35 rfl (by decide) ?_
      (first | refine pn_lald1 (q := 37) dX7_tests_36 rfl rfl rfl (by omega) (by first | decide | omega) ?_ | refine pn_lald5 (q := 37) dX7_tests_36 rfl rfl rfl (by omega) (by first | decide | omega) ?_); refine pn_eq (h' := _) (st' := .long (lN Y.2.2.1) :: _) rfl rfl ?_
      refine pn_lconst (q := 38) (v := lN 1) dX7_tests_37 rfl (by decide) ?_
      refine pn_leq (q1 := 39) (q := 42) (tgt := 55) dX7_tests_38 rfl dX7_tests_39 (by decide) rfl (fun hc38 => ?_) (fun hc38 => ?_)
      · refine pn_iload_n (q := 56) dX7_tests_55 rfl rfl ?_
        refine pn_iret dX7_tests_56 rfl ?_
        exact ⟨by rw [eu]; rfl, rfl⟩
      · exact (hc38 (by rw [h1])).elim
    · by_cases h2 : Y.2.2.1 = 2
      · have hcl : clN Y.2.2.1 = false := by rw [h2]; rfl
        rw [hcl]
        refine pn_aload_n (q := 32) dX7_tests_31 rfl rfl rfl ?_
        refine pn_get (q := 35) fX7_20 dX7_tests_32 rfl rfl rfl ?_
        refine pn_iconst (q := 36) (v := nI 1) dX7_tests_35 rfl (by decide) ?_
        (first | refine pn_lald1 (q := 37) dX7_tests_36 rfl rfl rfl (by omega) (by first | decide | omega) ?_ | refine pn_lald5 (q := 37) dX7_tests_36 rfl rfl rfl (by omega) (by first | decide | omega) ?_); refine pn_eq (h' := _) (st' := .long (lN Y.2.2.1) :: _) rfl rfl ?_
        refine pn_lconst (q := 38) (v := lN 1) dX7_tests_37 rfl (by decide) ?_
        refine pn_leq (q1 := 39) (q := 42) (tgt := 55) dX7_tests_38 rfl dX7_tests_39 (by decide) rfl (fun hc38 => ?_) (fun hc38 => ?_)
        · (rw [lN_eqI (by omega) (by omega)] at hc38; exact (h1 hc38).elim)
        · refine pn_aload_n (q := 43) dX7_tests_42 rfl rfl rfl ?_
          refine pn_get (q := 46) fX7_20 dX7_tests_43 rfl rfl rfl ?_
          refine pn_iconst (q := 47) (v := nI 1) dX7_tests_46 rfl (by decide) ?_
          (first | refine pn_lald1 (q := 48) dX7_tests_47 rfl rfl rfl (by omega) (by first | decide | omega) ?_ | refine pn_lald5 (q := 48) dX7_tests_47 rfl rfl rfl (by omega) (by first | decide | omega) ?_); refine pn_eq (h' := _) (st' := .long (lN Y.2.2.1) :: _) rfl rfl ?_
          refine pn_ldc2 (q := 51) pw_1258 dX7_tests_48 rfl ?_; refine pn_eq (h' := _) (st' := .long (lN 2) :: _) rfl rfl ?_
          refine pn_lne (q1 := 52) (q := 55) (tgt := 57) dX7_tests_51 rfl dX7_tests_52 (by decide) rfl (fun hc51 => ?_) (fun hc51 => ?_)
          · exact (hc51 (by rw [h2])).elim
          · refine pn_iload_n (q := 56) dX7_tests_55 rfl rfl ?_
            refine pn_iret dX7_tests_56 rfl ?_
            exact ⟨by rw [eu]; rfl, rfl⟩
      · have hcl : clN Y.2.2.1 = true := by
          rcases (show Y.2.2.1 = 0 ∨ Y.2.2.1 = 3 by omega) with q | q <;> rw [q] <;> rfl
        have k9 := loop u Y.1 0 (by omega) hcl
        rw [show odM (lfN Y.2.2.2.2.2.2.1 Y.2.1 Y.2.2.2.2.1) Y.1 0 = false from rfl, ← eu] at k9
        refine pn_aload_n (q := 32) dX7_tests_31 rfl rfl rfl ?_
        refine pn_get (q := 35) fX7_20 dX7_tests_32 rfl rfl rfl ?_
        refine pn_iconst (q := 36) (v := nI 1) dX7_tests_35 rfl (by decide) ?_
        (first | refine pn_lald1 (q := 37) dX7_tests_36 rfl rfl rfl (by omega) (by first | decide | omega) ?_ | refine pn_lald5 (q := 37) dX7_tests_36 rfl rfl rfl (by omega) (by first | decide | omega) ?_); refine pn_eq (h' := _) (st' := .long (lN Y.2.2.1) :: _) rfl rfl ?_
        refine pn_lconst (q := 38) (v := lN 1) dX7_tests_37 rfl (by decide) ?_
        refine pn_leq (q1 := 39) (q := 42) (tgt := 55) dX7_tests_38 rfl dX7_tests_39 (by decide) rfl (fun hc38 => ?_) (fun hc38 => ?_)
        · (rw [lN_eqI (by omega) (by omega)] at hc38; exact (h1 hc38).elim)
        · refine pn_aload_n (q := 43) dX7_tests_42 rfl rfl rfl ?_
          refine pn_get (q := 46) fX7_20 dX7_tests_43 rfl rfl rfl ?_
          refine pn_iconst (q := 47) (v := nI 1) dX7_tests_46 rfl (by decide) ?_
          (first | refine pn_lald1 (q := 48) dX7_tests_47 rfl rfl rfl (by omega) (by first | decide | omega) ?_ | refine pn_lald5 (q := 48) dX7_tests_47 rfl rfl rfl (by omega) (by first | decide | omega) ?_); refine pn_eq (h' := _) (st' := .long (lN Y.2.2.1) :: _) rfl rfl ?_
          refine pn_ldc2 (q := 51) pw_1258 dX7_tests_48 rfl ?_; refine pn_eq (h' := _) (st' := .long (lN 2) :: _) rfl rfl ?_
          refine pn_lne (q1 := 52) (q := 55) (tgt := 57) dX7_tests_51 rfl dX7_tests_52 (by decide) rfl (fun hc51 => ?_) (fun hc51 => ?_)
          · refine pn_iconst (q := 58) (v := nI 0) dX7_tests_57 rfl (by decide) ?_
            refine pn_istore (q := 60) dX7_tests_58 rfl (by decide) ?_
            exact k9
          · (rw [lN_eqI (by omega) (by omega)] at hc51; exact (h2 (by omega)).elim)
  have hmm : pcN (lfN Y.2.2.2.2.2.2.1 Y.2.1 Y.2.2.2.2.1) % Y.2.2.2.1 < Y.2.2.2.1 := Nat.mod_lt _ hk
  by_cases h0 : pcN (lfN Y.2.2.2.2.2.2.1 Y.2.1 Y.2.2.2.2.1) % Y.2.2.2.1 ≠ 0
  · rw [decide_eq_true h0]
    refine pn_aload_n (q := 1) dX7_tests_0 rfl rfl rfl ?_
    refine pn_iconst (q := 2) (v := nI 0) dX7_tests_1 rfl (by decide) ?_
    (refine pn_put (q := 5) fX7_63 dX7_tests_2 rfl rfl (Nat.le_of_ble_eq_true rfl) (pnF_int _) ?_)
    refine pn_eq (h' := (hM Y P (0, a.2) b c e f g h)) (st' := _) rfl rfl ?_
    refine pn_aload_n (q := 6) dX7_tests_5 rfl rfl rfl ?_
    refine pn_idV (q := 9) (bc9 := 0) (bs9 := 0) (m_leftNow adK d Y P (0, a.2) b c e f g h hpc) lkX7_225 dX7_tests_6 rfl rfl (hM_cl) (hM_cl) (Nat.le_of_ble_eq_true rfl) rfl rfl rfl rfl rfl rfl (by omega) (by omega) (by omega) (Nat.le_of_ble_eq_true rfl) ?_
    refine pn_lstore_n (q := 10) dX7_tests_9 rfl (by decide) ?_
    refine pn_lload_n (q := 11) dX7_tests_10 rfl rfl ?_
    refine pn_roS1 (q := 14) (CO) lkX7_229 dX7_tests_11 rfl rfl (pnSel_of (I := []) rfl rfl) (pnFree_none rfl) rfl (by omega) (Nat.le_of_ble_eq_true rfl) rfl ?_
    refine pn_aload_n (q := 15) dX7_tests_14 rfl rfl rfl ?_
    refine pn_get (q := 18) fX7_20 dX7_tests_15 rfl rfl rfl ?_
    refine pn_iconst (q := 19) (v := nI 2) dX7_tests_18 rfl (by decide) ?_
    (first | refine pn_lald1 (q := 20) dX7_tests_19 rfl rfl rfl (by omega) (by first | decide | omega) ?_ | refine pn_lald5 (q := 20) dX7_tests_19 rfl rfl rfl (by omega) (by first | decide | omega) ?_); refine pn_eq (h' := _) (st' := .long (lN Y.2.2.2.1) :: _) rfl rfl ?_
    first | with_reducible refine pn_l2iN (q := 21) dX7_tests_20 rfl ?_ | refine pn_l2i (q := 21) dX7_tests_20 rfl ?_
    refine pn_iremN (q := 22) dX7_tests_21 rfl (by omega) ?_
    first | refine pn_zne (q := 25) (tgt := 29) dX7_tests_22 (by decide) rfl (by omega) (fun hc22 => ?_) (fun hc22 => ?_) | refine pn_if_ne (q := 25) (tgt := 29) dX7_tests_22 (by decide) rfl (fun hc22 => ?_) (fun hc22 => ?_)
    · refine pn_iconst (q := 30) (v := nI 1) dX7_tests_29 rfl (by decide) ?_
      refine pn_istore_n (q := 31) dX7_tests_30 rfl (by decide) ?_
      exact key true
    · omega
  · rw [decide_eq_false h0]
    refine pn_aload_n (q := 1) dX7_tests_0 rfl rfl rfl ?_
    refine pn_iconst (q := 2) (v := nI 0) dX7_tests_1 rfl (by decide) ?_
    (refine pn_put (q := 5) fX7_63 dX7_tests_2 rfl rfl (Nat.le_of_ble_eq_true rfl) (pnF_int _) ?_)
    refine pn_eq (h' := (hM Y P (0, a.2) b c e f g h)) (st' := _) rfl rfl ?_
    refine pn_aload_n (q := 6) dX7_tests_5 rfl rfl rfl ?_
    refine pn_idV (q := 9) (bc9 := 0) (bs9 := 0) (m_leftNow adK d Y P (0, a.2) b c e f g h hpc) lkX7_225 dX7_tests_6 rfl rfl (hM_cl) (hM_cl) (Nat.le_of_ble_eq_true rfl) rfl rfl rfl rfl rfl rfl (by omega) (by omega) (by omega) (Nat.le_of_ble_eq_true rfl) ?_
    refine pn_lstore_n (q := 10) dX7_tests_9 rfl (by decide) ?_
    refine pn_lload_n (q := 11) dX7_tests_10 rfl rfl ?_
    refine pn_roS1 (q := 14) (CO) lkX7_229 dX7_tests_11 rfl rfl (pnSel_of (I := []) rfl rfl) (pnFree_none rfl) rfl (by omega) (Nat.le_of_ble_eq_true rfl) rfl ?_
    refine pn_aload_n (q := 15) dX7_tests_14 rfl rfl rfl ?_
    refine pn_get (q := 18) fX7_20 dX7_tests_15 rfl rfl rfl ?_
    refine pn_iconst (q := 19) (v := nI 2) dX7_tests_18 rfl (by decide) ?_
    (first | refine pn_lald1 (q := 20) dX7_tests_19 rfl rfl rfl (by omega) (by first | decide | omega) ?_ | refine pn_lald5 (q := 20) dX7_tests_19 rfl rfl rfl (by omega) (by first | decide | omega) ?_); refine pn_eq (h' := _) (st' := .long (lN Y.2.2.2.1) :: _) rfl rfl ?_
    first | with_reducible refine pn_l2iN (q := 21) dX7_tests_20 rfl ?_ | refine pn_l2i (q := 21) dX7_tests_20 rfl ?_
    refine pn_iremN (q := 22) dX7_tests_21 rfl (by omega) ?_
    first | refine pn_zne (q := 25) (tgt := 29) dX7_tests_22 (by decide) rfl (by omega) (fun hc22 => ?_) (fun hc22 => ?_) | refine pn_if_ne (q := 25) (tgt := 29) dX7_tests_22 (by decide) rfl (fun hc22 => ?_) (fun hc22 => ?_)
    · omega
    · refine pn_iconst (q := 26) (v := nI 0) dX7_tests_25 rfl (by decide) ?_
      refine pn_goto (q := 30) dX7_tests_26 (by decide) ?_
      refine pn_istore_n (q := 31) dX7_tests_30 rfl (by decide) ?_
      exact key false
/-! bases -/
set_option maxRecDepth 100000 in
theorem m_baseLong (adK : Nat → Nat) (d : Nat) (Y : MN) (P : Nat → MN) (a : G0) (b : G1) (c : G3) (e : G4) (f : G5) (g : G6) (h : G7) (i : Nat) (hi : i < 4) : pnCt mX7_baseLong adK d 0 0 [.ref 0, .int (nI i)] (hM Y P a b c e f g h) (pnIs (.inl (some (.int (nI (Y.2.2.2.2.2.2.2 (6 * i)))))) (hM Y P a b c e f g h)) := by
  refine pnCt_of (by decide) kX7_baseLong (Nat.le_of_ble_eq_true rfl) rfl hM_cl (pnCS_b rfl) ?_
  refine pn_aload_n (q := 1) dX7_baseLong_0 rfl rfl rfl ?_
  refine pn_get (q := 4) fX7_20 dX7_baseLong_1 rfl rfl rfl ?_
  refine pn_iconst (q := 5) (v := nI 5) dX7_baseLong_4 rfl (by decide) ?_
  refine pn_bipush (q := 7) (v := nI 6) dX7_baseLong_5 rfl (by decide) ?_
  refine pn_iload_n (q := 8) dX7_baseLong_7 rfl rfl ?_
  first | with_reducible refine pn_imulN (q := 9) dX7_baseLong_8 rfl ?_ | refine pn_imul (q := 9) dX7_baseLong_8 rfl ?_
  first | with_reducible refine pn_iaddN (q := 10) dX7_baseLong_9 rfl ?_ | refine pn_iadd (q := 10) dX7_baseLong_9 rfl ?_
  refine pn_lald1 (q := 11) dX7_baseLong_10 rfl rfl rfl (by omega) (by decide) ?_; rw [nowF_b _ _ (by omega)]
  first | with_reducible refine pn_l2iN (q := 12) dX7_baseLong_11 rfl ?_ | refine pn_l2i (q := 12) dX7_baseLong_11 rfl ?_
  refine pn_iret dX7_baseLong_12 rfl ?_
  exact ⟨rfl, rfl⟩
set_option maxRecDepth 100000 in
theorem m_baseNode (adK : Nat → Nat) (d : Nat) (Y : MN) (P : Nat → MN) (a : G0) (b : G1) (c : G3) (e : G4) (f : G5) (g : G6) (h : G7) (i j : Nat) (hi : i < 4) (hj : j < 5) : pnCt mX7_baseNode adK d 0 0 [.ref 0, .int (nI i), .int (nI j)] (hM Y P a b c e f g h) (pnIs (.inl (some (.int (nI (Y.2.2.2.2.2.2.2 (6 * i + 1 + j)))))) (hM Y P a b c e f g h)) := by
  refine pnCt_of (by decide) kX7_baseNode (Nat.le_of_ble_eq_true rfl) rfl hM_cl (pnCS_b rfl) ?_
  refine pn_aload_n (q := 1) dX7_baseNode_0 rfl rfl rfl ?_
  refine pn_get (q := 4) fX7_20 dX7_baseNode_1 rfl rfl rfl ?_
  refine pn_iconst (q := 5) (v := nI 5) dX7_baseNode_4 rfl (by decide) ?_
  refine pn_bipush (q := 7) (v := nI 6) dX7_baseNode_5 rfl (by decide) ?_
  refine pn_iload_n (q := 8) dX7_baseNode_7 rfl rfl ?_
  first | with_reducible refine pn_imulN (q := 9) dX7_baseNode_8 rfl ?_ | refine pn_imul (q := 9) dX7_baseNode_8 rfl ?_
  first | with_reducible refine pn_iaddN (q := 10) dX7_baseNode_9 rfl ?_ | refine pn_iadd (q := 10) dX7_baseNode_9 rfl ?_
  refine pn_iconst (q := 11) (v := nI 1) dX7_baseNode_10 rfl (by decide) ?_
  first | with_reducible refine pn_iaddN (q := 12) dX7_baseNode_11 rfl ?_ | refine pn_iadd (q := 12) dX7_baseNode_11 rfl ?_
  refine pn_iload_n (q := 13) dX7_baseNode_12 rfl rfl ?_
  first | with_reducible refine pn_iaddN (q := 14) dX7_baseNode_13 rfl ?_ | refine pn_iadd (q := 14) dX7_baseNode_13 rfl ?_
  refine pn_lald1 (q := 15) dX7_baseNode_14 rfl rfl rfl (by omega) (by decide) ?_; rw [show 5 + 6 * i + 1 + j = 5 + (6 * i + 1 + j) by omega, nowF_b _ _ (by omega)]
  first | with_reducible refine pn_l2iN (q := 16) dX7_baseNode_15 rfl ?_ | refine pn_l2i (q := 16) dX7_baseNode_15 rfl ?_
  refine pn_iret dX7_baseNode_16 rfl ?_
  exact ⟨rfl, rfl⟩
set_option maxRecDepth 100000 in
theorem m_baseX (adK : Nat → Nat) (d : Nat) (Y : MN) (P : Nat → MN) (a : G0) (b : G1) (c : G3) (e : G4) (f : G5) (g : G6) (h : G7) (x y : Int32) (hbc : Y.2.2.2.2.2.1 ≤ 4) (hx : hasN Y.2.2.2.2.2.1 x = false) : pnCt mX7_base adK (d + 2) 0 0 [.ref 0, .int x, .int y] (hM Y P a b c e f g h) (pnIs (.inl (some (.int (nI 0)))) (hM Y P (bdA (0, a.2) 1 0) b c e f g h)) := by
  refine pnCt_of (by decide) kX7_base (Nat.le_of_ble_eq_true rfl) rfl hM_cl (pnCS_b rfl) ?_
  have Cx := m_isBase adK d Y P (0, a.2) b c e f g h x hbc
  rw [hx] at Cx
  refine pn_aload_n (q := 1) dX7_base_0 rfl rfl rfl ?_
  refine pn_iconst (q := 2) (v := nI 0) dX7_base_1 rfl (by decide) ?_
  (refine pn_put (q := 5) fX7_63 dX7_base_2 rfl rfl (Nat.le_of_ble_eq_true rfl) (pnF_int _) ?_)
  refine pn_eq (h' := (hM Y P (0, a.2) b c e f g h)) (st' := _) rfl rfl ?_
  refine pn_aload_n (q := 6) dX7_base_5 rfl rfl rfl ?_
  refine pn_aload_n (q := 7) dX7_base_6 rfl rfl rfl ?_
  refine pn_iload_n (q := 8) dX7_base_7 rfl rfl ?_
  refine pn_idV (q := 11) (bc9 := 0) (bs9 := 0) (Cx) lkX7_352 dX7_base_8 rfl rfl (hM_cl) (hM_cl) (Nat.le_of_ble_eq_true rfl) rfl rfl rfl rfl rfl rfl (by omega) (by omega) (by omega) (Nat.le_of_ble_eq_true rfl) ?_
  refine pn_bne (q := 14) (tgt := 18) dX7_base_11 (by decide) rfl (fun hc11 => ?_) (fun hc11 => ?_)
  · cases hc11
  · refine pn_iconst (q := 15) (v := nB true) dX7_base_14 rfl (by decide) ?_
    refine pn_goto (q := 19) dX7_base_15 (by decide) ?_
    refine pn_iconst (q := 20) (v := nI 1) dX7_base_19 rfl (by decide) ?_
    refine pn_iconst (q := 21) (v := nI 0) dX7_base_20 rfl (by decide) ?_
    refine pn_idV (q := 24) (bc9 := 0) (bs9 := 0) (m_badT adK d Y P (0, a.2) b c e f g h 1 0 rfl (by omega) (by omega) (by omega)) lkX7_206 dX7_base_21 rfl rfl (hM_cl) (hM_cl) (Nat.le_of_ble_eq_true rfl) rfl rfl rfl rfl rfl rfl (by omega) (by omega) (by omega) (Nat.le_of_ble_eq_true rfl) ?_
    refine pn_beq (q := 27) (tgt := 31) dX7_base_24 (by decide) rfl (fun hc24 => ?_) (fun hc24 => ?_)
    · cases hc24
    · refine pn_iconst (q := 28) (v := nI 0) dX7_base_27 rfl (by decide) ?_
      refine pn_goto (q := 58) dX7_base_28 (by decide) ?_
      refine pn_iret dX7_base_58 rfl ?_
      exact ⟨rfl, rfl⟩
set_option maxRecDepth 100000 in
theorem m_base (adK : Nat → Nat) (d : Nat) (Y : MN) (P : Nat → MN) (a : G0) (b : G1) (c : G3) (e : G4) (f : G5) (g : G6) (h : G7) (i : Nat) (y : Int32) (hbc : Y.2.2.2.2.2.1 ≤ 4) (hi : i < Y.2.2.2.2.2.1) (hl : Y.2.2.2.2.2.2.2 (6 * i) ≤ 5) : pnCt mX7_base adK (d + 2) 0 0 [.ref 0, .int (nI i), .int y] (hM Y P a b c e f g h) (pnIs (.inl (some (.int (if hasN (Y.2.2.2.2.2.2.2 (6 * i)) y = true then nI (Y.2.2.2.2.2.2.2 (6 * i + 1 + y.toNatClampNeg)) else -1)))) (hM Y P (0, a.2) b c e f g h)) := by
  refine pnCt_of (by decide) kX7_base (Nat.le_of_ble_eq_true rfl) rfl hM_cl (pnCS_b rfl) ?_
  have Cx := m_isBase adK d Y P (0, a.2) b c e f g h (nI i) hbc
  rw [hasN_in hi (by omega)] at Cx
  have C0 := m_in adK d y.toInt64 (lN 0) ((nI (Y.2.2.2.2.2.2.2 (6 * i)) - nI 1).toInt64)
  rw [inL_sub (by omega)] at C0
  have CL := m_baseLong adK d Y P (0, a.2) b c e f g h i (by omega)
  rcases hasN_cases y (Y.2.2.2.2.2.2.2 (6 * i)) (by omega) with ⟨h1, h0⟩ | ⟨h1, h2, h0⟩ | ⟨j, hj, rfl, h0⟩
  · rw [h0] at C0
    rw [if_neg (by rw [h0]; exact Bool.false_ne_true)]
    refine pn_aload_n (q := 1) dX7_base_0 rfl rfl rfl ?_
    refine pn_iconst (q := 2) (v := nI 0) dX7_base_1 rfl (by decide) ?_
    (refine pn_put (q := 5) fX7_63 dX7_base_2 rfl rfl (Nat.le_of_ble_eq_true rfl) (pnF_int _) ?_)
    refine pn_eq (h' := (hM Y P (0, a.2) b c e f g h)) (st' := _) rfl rfl ?_
    refine pn_aload_n (q := 6) dX7_base_5 rfl rfl rfl ?_
    refine pn_aload_n (q := 7) dX7_base_6 rfl rfl rfl ?_
    refine pn_iload_n (q := 8) dX7_base_7 rfl rfl ?_
    refine pn_idV (q := 11) (bc9 := 0) (bs9 := 0) (Cx) lkX7_352 dX7_base_8 rfl rfl (hM_cl) (hM_cl) (Nat.le_of_ble_eq_true rfl) rfl rfl rfl rfl rfl rfl (by omega) (by omega) (by omega) (Nat.le_of_ble_eq_true rfl) ?_
    refine pn_bne (q := 14) (tgt := 18) dX7_base_11 (by decide) rfl (fun hc11 => ?_) (fun hc11 => ?_)
    · refine pn_iconst (q := 19) (v := nB false) dX7_base_18 rfl (by decide) ?_
      refine pn_iconst (q := 20) (v := nI 1) dX7_base_19 rfl (by decide) ?_
      refine pn_iconst (q := 21) (v := nI 0) dX7_base_20 rfl (by decide) ?_
      refine pn_idV (q := 24) (bc9 := 0) (bs9 := 0) (m_badF adK d Y P (0, a.2) b c e f g h 1 0 rfl) lkX7_206 dX7_base_21 rfl rfl (hM_cl) (hM_cl) (Nat.le_of_ble_eq_true rfl) rfl rfl rfl rfl rfl rfl (by omega) (by omega) (by omega) (Nat.le_of_ble_eq_true rfl) ?_
      refine pn_beq (q := 27) (tgt := 31) dX7_base_24 (by decide) rfl (fun hc24 => ?_) (fun hc24 => ?_)
      · refine pn_iload_n (q := 32) dX7_base_31 rfl rfl ?_
        refine pn_i2l (q := 33) dX7_base_32 rfl ?_
        refine pn_lconst (q := 34) (v := lN 0) dX7_base_33 rfl (by decide) ?_
        refine pn_aload_n (q := 35) dX7_base_34 rfl rfl rfl ?_
        refine pn_iload_n (q := 36) dX7_base_35 rfl rfl ?_
        refine pn_idV (q := 39) (bc9 := 0) (bs9 := 0) (CL) lkX7_311 dX7_base_36 rfl rfl (hM_cl) (hM_cl) (Nat.le_of_ble_eq_true rfl) rfl rfl rfl rfl rfl rfl (by omega) (by omega) (by omega) (Nat.le_of_ble_eq_true rfl) ?_
        refine pn_iconst (q := 40) (v := nI 1) dX7_base_39 rfl (by decide) ?_
        refine pn_isub (q := 41) dX7_base_40 rfl ?_
        refine pn_i2l (q := 42) dX7_base_41 rfl ?_
        refine pn_roS1 (q := 45) (C0) lkX7_92 dX7_base_42 rfl rfl (pnSel_of (I := []) rfl rfl) (pnFree_none rfl) rfl (by omega) (Nat.le_of_ble_eq_true rfl) rfl ?_
        refine pn_beq (q := 48) (tgt := 57) dX7_base_45 (by decide) rfl (fun hc45 => ?_) (fun hc45 => ?_)
        · refine pn_iconst (q := 58) (v := (-1)) dX7_base_57 rfl (by decide) ?_
          refine pn_iret dX7_base_58 rfl ?_
          exact ⟨rfl, rfl⟩
        · cases hc45
      · cases hc24
    · cases hc11
  · rw [h0] at C0
    rw [if_neg (by rw [h0]; exact Bool.false_ne_true)]
    refine pn_aload_n (q := 1) dX7_base_0 rfl rfl rfl ?_
    refine pn_iconst (q := 2) (v := nI 0) dX7_base_1 rfl (by decide) ?_
    (refine pn_put (q := 5) fX7_63 dX7_base_2 rfl rfl (Nat.le_of_ble_eq_true rfl) (pnF_int _) ?_)
    refine pn_eq (h' := (hM Y P (0, a.2) b c e f g h)) (st' := _) rfl rfl ?_
    refine pn_aload_n (q := 6) dX7_base_5 rfl rfl rfl ?_
    refine pn_aload_n (q := 7) dX7_base_6 rfl rfl rfl ?_
    refine pn_iload_n (q := 8) dX7_base_7 rfl rfl ?_
    refine pn_idV (q := 11) (bc9 := 0) (bs9 := 0) (Cx) lkX7_352 dX7_base_8 rfl rfl (hM_cl) (hM_cl) (Nat.le_of_ble_eq_true rfl) rfl rfl rfl rfl rfl rfl (by omega) (by omega) (by omega) (Nat.le_of_ble_eq_true rfl) ?_
    refine pn_bne (q := 14) (tgt := 18) dX7_base_11 (by decide) rfl (fun hc11 => ?_) (fun hc11 => ?_)
    · refine pn_iconst (q := 19) (v := nB false) dX7_base_18 rfl (by decide) ?_
      refine pn_iconst (q := 20) (v := nI 1) dX7_base_19 rfl (by decide) ?_
      refine pn_iconst (q := 21) (v := nI 0) dX7_base_20 rfl (by decide) ?_
      refine pn_idV (q := 24) (bc9 := 0) (bs9 := 0) (m_badF adK d Y P (0, a.2) b c e f g h 1 0 rfl) lkX7_206 dX7_base_21 rfl rfl (hM_cl) (hM_cl) (Nat.le_of_ble_eq_true rfl) rfl rfl rfl rfl rfl rfl (by omega) (by omega) (by omega) (Nat.le_of_ble_eq_true rfl) ?_
      refine pn_beq (q := 27) (tgt := 31) dX7_base_24 (by decide) rfl (fun hc24 => ?_) (fun hc24 => ?_)
      · refine pn_iload_n (q := 32) dX7_base_31 rfl rfl ?_
        refine pn_i2l (q := 33) dX7_base_32 rfl ?_
        refine pn_lconst (q := 34) (v := lN 0) dX7_base_33 rfl (by decide) ?_
        refine pn_aload_n (q := 35) dX7_base_34 rfl rfl rfl ?_
        refine pn_iload_n (q := 36) dX7_base_35 rfl rfl ?_
        refine pn_idV (q := 39) (bc9 := 0) (bs9 := 0) (CL) lkX7_311 dX7_base_36 rfl rfl (hM_cl) (hM_cl) (Nat.le_of_ble_eq_true rfl) rfl rfl rfl rfl rfl rfl (by omega) (by omega) (by omega) (Nat.le_of_ble_eq_true rfl) ?_
        refine pn_iconst (q := 40) (v := nI 1) dX7_base_39 rfl (by decide) ?_
        refine pn_isub (q := 41) dX7_base_40 rfl ?_
        refine pn_i2l (q := 42) dX7_base_41 rfl ?_
        refine pn_roS1 (q := 45) (C0) lkX7_92 dX7_base_42 rfl rfl (pnSel_of (I := []) rfl rfl) (pnFree_none rfl) rfl (by omega) (Nat.le_of_ble_eq_true rfl) rfl ?_
        refine pn_beq (q := 48) (tgt := 57) dX7_base_45 (by decide) rfl (fun hc45 => ?_) (fun hc45 => ?_)
        · refine pn_iconst (q := 58) (v := (-1)) dX7_base_57 rfl (by decide) ?_
          refine pn_iret dX7_base_58 rfl ?_
          exact ⟨rfl, rfl⟩
        · cases hc45
      · cases hc24
    · cases hc11
  · rw [h0] at C0
    rw [if_pos h0, nI_clamp (by omega)]
    refine pn_aload_n (q := 1) dX7_base_0 rfl rfl rfl ?_
    refine pn_iconst (q := 2) (v := nI 0) dX7_base_1 rfl (by decide) ?_
    (refine pn_put (q := 5) fX7_63 dX7_base_2 rfl rfl (Nat.le_of_ble_eq_true rfl) (pnF_int _) ?_)
    refine pn_eq (h' := (hM Y P (0, a.2) b c e f g h)) (st' := _) rfl rfl ?_
    refine pn_aload_n (q := 6) dX7_base_5 rfl rfl rfl ?_
    refine pn_aload_n (q := 7) dX7_base_6 rfl rfl rfl ?_
    refine pn_iload_n (q := 8) dX7_base_7 rfl rfl ?_
    refine pn_idV (q := 11) (bc9 := 0) (bs9 := 0) (Cx) lkX7_352 dX7_base_8 rfl rfl (hM_cl) (hM_cl) (Nat.le_of_ble_eq_true rfl) rfl rfl rfl rfl rfl rfl (by omega) (by omega) (by omega) (Nat.le_of_ble_eq_true rfl) ?_
    refine pn_bne (q := 14) (tgt := 18) dX7_base_11 (by decide) rfl (fun hc11 => ?_) (fun hc11 => ?_)
    · refine pn_iconst (q := 19) (v := nB false) dX7_base_18 rfl (by decide) ?_
      refine pn_iconst (q := 20) (v := nI 1) dX7_base_19 rfl (by decide) ?_
      refine pn_iconst (q := 21) (v := nI 0) dX7_base_20 rfl (by decide) ?_
      refine pn_idV (q := 24) (bc9 := 0) (bs9 := 0) (m_badF adK d Y P (0, a.2) b c e f g h 1 0 rfl) lkX7_206 dX7_base_21 rfl rfl (hM_cl) (hM_cl) (Nat.le_of_ble_eq_true rfl) rfl rfl rfl rfl rfl rfl (by omega) (by omega) (by omega) (Nat.le_of_ble_eq_true rfl) ?_
      refine pn_beq (q := 27) (tgt := 31) dX7_base_24 (by decide) rfl (fun hc24 => ?_) (fun hc24 => ?_)
      · refine pn_iload_n (q := 32) dX7_base_31 rfl rfl ?_
        refine pn_i2l (q := 33) dX7_base_32 rfl ?_
        refine pn_lconst (q := 34) (v := lN 0) dX7_base_33 rfl (by decide) ?_
        refine pn_aload_n (q := 35) dX7_base_34 rfl rfl rfl ?_
        refine pn_iload_n (q := 36) dX7_base_35 rfl rfl ?_
        refine pn_idV (q := 39) (bc9 := 0) (bs9 := 0) (CL) lkX7_311 dX7_base_36 rfl rfl (hM_cl) (hM_cl) (Nat.le_of_ble_eq_true rfl) rfl rfl rfl rfl rfl rfl (by omega) (by omega) (by omega) (Nat.le_of_ble_eq_true rfl) ?_
        refine pn_iconst (q := 40) (v := nI 1) dX7_base_39 rfl (by decide) ?_
        refine pn_isub (q := 41) dX7_base_40 rfl ?_
        refine pn_i2l (q := 42) dX7_base_41 rfl ?_
        refine pn_roS1 (q := 45) (C0) lkX7_92 dX7_base_42 rfl rfl (pnSel_of (I := []) rfl rfl) (pnFree_none rfl) rfl (by omega) (Nat.le_of_ble_eq_true rfl) rfl ?_
        refine pn_beq (q := 48) (tgt := 57) dX7_base_45 (by decide) rfl (fun hc45 => ?_) (fun hc45 => ?_)
        · cases hc45
        · refine pn_aload_n (q := 49) dX7_base_48 rfl rfl rfl ?_
          refine pn_iload_n (q := 50) dX7_base_49 rfl rfl ?_
          refine pn_iload_n (q := 51) dX7_base_50 rfl rfl ?_
          refine pn_idV (q := 54) (bc9 := 0) (bs9 := 0) (m_baseNode adK d Y P (0, a.2) b c e f g h i j (by omega) (by omega)) lkX7_314 dX7_base_51 rfl rfl (hM_cl) (hM_cl) (Nat.le_of_ble_eq_true rfl) rfl rfl rfl rfl rfl rfl (by omega) (by omega) (by omega) (Nat.le_of_ble_eq_true rfl) ?_
          refine pn_goto (q := 58) dX7_base_54 (by decide) ?_
          refine pn_iret dX7_base_58 rfl ?_
          exact ⟨rfl, rfl⟩
      · cases hc24
    · cases hc11
