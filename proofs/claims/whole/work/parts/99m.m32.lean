set_option maxRecDepth 100000 in
theorem m_searches (adK : Nat → Nat) (d : Nat) (Y : MN) (P : Nat → MN) (a : G0) (b : G1) (c : G3) (e : G4) (f : G5) (g : G6) (h : G7) (once : Bool) (hp9 : lyP Y c e) (hO : lyO (lyG Y c e)) (G : Int64 → Prop) (M : Int64 → Nat) (hG1 : ∀ x, G x → ¬ x = lN 0 → llN x + 1 < 57) (hG2 : ∀ x k, G x → k < (lyG Y c e).2.2.2.2.2.2.2.2 → (lyG Y c e).2.1 k &&& (x ^^^ (-1)) = lN 0 → G (x &&& ((lyG Y c e).2.1 k ^^^ (-1))) ∧ M (x &&& ((lyG Y c e).2.1 k ^^^ (-1))) < M x) (hG3 : G (lfN Y.2.2.2.2.2.2.1 Y.2.1 Y.2.2.2.2.1)) (hM3 : M (lfN Y.2.2.2.2.2.2.1 Y.2.1 Y.2.2.2.2.1) < 56) (hpc : Y.2.2.2.2.1 ≤ 60) : pnCt mX7_searches adK (d + 58) (lyM Y c e) (lyN Y c e) [.ref 0, .int (nB once)] (hM Y P a b c e f g h) (pnIs (.inl none) (hM Y P a b (lyC Y c e) (lyG Y c e) f (gsF (lyG Y c e) once 56 (lfN Y.2.2.2.2.2.2.1 Y.2.1 Y.2.2.2.2.1) 0 ((g.1, g.2.1, 0, 0, 0, false) : G6)) h)) ∧ gsI (gsF (lyG Y c e) once 56 (lfN Y.2.2.2.2.2.2.1 Y.2.1 Y.2.2.2.2.1) 0 ((g.1, g.2.1, 0, 0, 0, false) : G6)) := by
  have CL := m_lays adK (d + 37) Y P a b c e f g h hp9
  generalize (lyG Y c e) = e1 at *
  generalize (lyC Y c e) = c1 at *
  obtain ⟨CG, hI⟩ := m_goes adK d Y P a b c1 e1 f h once hO G M hG1 hG2 56 (lfN Y.2.2.2.2.2.2.1 Y.2.1 Y.2.2.2.2.1) 0 ((g.1, g.2.1, 0, 0, 0, false) : G6) hG3 hM3 (by omega) (Nat.le_refl _) (Nat.zero_le _)
  refine ⟨?_, hI⟩
  refine pnCt_of (by decide) kX7_searches (Nat.le_of_ble_eq_true rfl) rfl hM_cl (pnCS_b rfl) ?_
  have CF := m_leftNow adK d Y P a b c1 e1 f ((g.1, g.2.1, 0, 0, 0, false) : G6) h hpc
  refine pn_aload_n (q := 1) dX7_searches_0 rfl rfl rfl ?_
  refine pn_idV (q := 4) (bc9 := 0) (bs9 := 0) (CL) lkX7_265 dX7_searches_1 rfl rfl (hM_cl) (hM_cl) (Nat.le_of_ble_eq_true rfl) rfl rfl rfl rfl rfl rfl (by omega) (by omega) (by omega) (Nat.le_of_ble_eq_true rfl) ?_
  refine pn_aload_n (q := 5) dX7_searches_4 rfl rfl rfl ?_
  refine pn_iconst (q := 6) (v := nI 0) dX7_searches_5 rfl (by decide) ?_
  refine pn_put (q := 9) fX7_291 dX7_searches_6 rfl rfl (Nat.le_of_ble_eq_true rfl) (pnF_int _) ?_
  refine pn_aload_n (q := 10) dX7_searches_9 rfl rfl rfl ?_
  refine pn_iconst (q := 11) (v := nI 0) dX7_searches_10 rfl (by decide) ?_
  refine pn_put (q := 14) fX7_300 dX7_searches_11 rfl rfl (Nat.le_of_ble_eq_true rfl) (pnF_int _) ?_
  refine pn_aload_n (q := 15) dX7_searches_14 rfl rfl rfl ?_
  refine pn_iconst (q := 16) (v := nI 0) dX7_searches_15 rfl (by decide) ?_
  refine pn_put (q := 19) fX7_294 dX7_searches_16 rfl rfl (Nat.le_of_ble_eq_true rfl) (pnF_int _) ?_
  refine pn_aload_n (q := 20) dX7_searches_19 rfl rfl rfl ?_
  refine pn_iconst (q := 21) (v := nI 0) dX7_searches_20 rfl (by decide) ?_
  (refine pn_put (q := 24) fX7_297 dX7_searches_21 rfl rfl (Nat.le_of_ble_eq_true rfl) (pnF_bool (by first | exact Or.inl rfl | exact Or.inr rfl | assumption)) ?_)
  refine pn_eq (h' := (hM Y P a b c1 e1 f ((g.1, g.2.1, 0, 0, 0, false) : G6) h)) (st' := _) rfl rfl ?_
  refine pn_aload_n (q := 25) dX7_searches_24 rfl rfl rfl ?_
  refine pn_aload_n (q := 26) dX7_searches_25 rfl rfl rfl ?_
  refine pn_idV (q := 29) (bc9 := 0) (bs9 := 0) (CF) lkX7_225 dX7_searches_26 rfl rfl (hM_cl) (hM_cl) (Nat.le_of_ble_eq_true rfl) rfl rfl rfl rfl rfl rfl (by omega) (by omega) (by omega) (Nat.le_of_ble_eq_true rfl) ?_
  refine pn_iconst (q := 30) (v := nI 0) dX7_searches_29 rfl (by decide) ?_
  refine pn_iload_n (q := 31) dX7_searches_30 rfl rfl ?_
  refine pn_idV (q := 34) (bc9 := 0) (bs9 := 0) (CG) lkX7_303 dX7_searches_31 rfl rfl (hM_cl) (hM_cl) (Nat.le_of_ble_eq_true rfl) rfl rfl rfl rfl rfl rfl (by omega) (by omega) (by omega) (Nat.le_of_ble_eq_true rfl) ?_
  refine pn_vret dX7_searches_34 rfl ?_
  exact ⟨rfl, rfl⟩
set_option maxRecDepth 100000 in
theorem m_searchX (adK : Nat → Nat) (d : Nat) (Y : MN) (P : Nat → MN) (a : G0) (b : G1) (c : G3) (e : G4) (f : G5) (g : G6) (h : G7) (w : Int32) (hw : ¬ (0 ≤ w.toInt ∧ w.toInt ≤ 2)) : pnCt mX7_search adK (d + 59) 0 0 [.ref 0, .int w] (hM Y P a b c e f g h) (pnIs (.inl (some (.int (nI 0)))) (hM Y P (bdA (0, a.2) 1 1) b c e f g h)) := by
  refine pnCt_of (by decide) kX7_search (Nat.le_of_ble_eq_true rfl) rfl hM_cl (pnCS_b rfl) ?_
  have C0 := m_in adK d w.toInt64 (lN 0) (lN 2)
  rw [inL_nat (by omega) (by omega), show decide (((0 : Nat) : Int) ≤ w.toInt ∧ w.toInt ≤ ((2 : Nat) : Int)) = false from decide_eq_false hw] at C0
  refine pn_aload_n (q := 1) dX7_search_0 rfl rfl rfl ?_
  refine pn_iconst (q := 2) (v := nI 0) dX7_search_1 rfl (by decide) ?_
  (refine pn_put (q := 5) fX7_63 dX7_search_2 rfl rfl (Nat.le_of_ble_eq_true rfl) (pnF_int _) ?_)
  refine pn_eq (h' := (hM Y P (0, a.2) b c e f g h)) (st' := _) rfl rfl ?_
  refine pn_aload_n (q := 6) dX7_search_5 rfl rfl rfl ?_
  refine pn_iload_n (q := 7) dX7_search_6 rfl rfl ?_
  refine pn_i2l (q := 8) dX7_search_7 rfl ?_
  refine pn_lconst (q := 9) (v := lN 0) dX7_search_8 rfl (by decide) ?_
  refine pn_ldc2 (q := 12) pw_1258 dX7_search_9 rfl ?_; refine pn_eq (h' := _) (st' := .long (lN 2) :: _) rfl rfl ?_
  refine pn_roS1 (q := 15) (C0) lkX7_92 dX7_search_12 rfl rfl (pnSel_of (I := []) rfl rfl) (pnFree_none rfl) rfl (by omega) (Nat.le_of_ble_eq_true rfl) rfl ?_
  refine pn_bne (q := 18) (tgt := 22) dX7_search_15 (by decide) rfl (fun hc15 => ?_) (fun hc15 => ?_)
  · cases hc15
  · refine pn_iconst (q := 19) (v := nB true) dX7_search_18 rfl (by decide) ?_
    refine pn_goto (q := 23) dX7_search_19 (by decide) ?_
    refine pn_iconst (q := 24) (v := nI 1) dX7_search_23 rfl (by decide) ?_
    refine pn_iconst (q := 25) (v := nI 1) dX7_search_24 rfl (by decide) ?_
    refine pn_idV (q := 28) (bc9 := 0) (bs9 := 0) (m_badT adK d Y P (0, a.2) b c e f g h 1 1 rfl (by omega) (by omega) (by omega)) lkX7_206 dX7_search_25 rfl rfl (hM_cl) (hM_cl) (Nat.le_of_ble_eq_true rfl) rfl rfl rfl rfl rfl rfl (by omega) (by omega) (by omega) (Nat.le_of_ble_eq_true rfl) ?_
    refine pn_beq (q := 31) (tgt := 33) dX7_search_28 (by decide) rfl (fun hc28 => ?_) (fun hc28 => ?_)
    · cases hc28
    · refine pn_iconst (q := 32) (v := nI 0) dX7_search_31 rfl (by decide) ?_
      refine pn_iret dX7_search_32 rfl ?_
      exact ⟨rfl, rfl⟩
set_option maxRecDepth 100000 in
theorem m_search0 (adK : Nat → Nat) (d : Nat) (Y : MN) (P : Nat → MN) (a : G0) (b : G1) (c : G3) (e : G4) (f : G5) (g : G6) (h : G7) (hp9 : lyP Y c e) (hO : lyO (lyG Y c e)) (G : Int64 → Prop) (M : Int64 → Nat) (hG1 : ∀ x, G x → ¬ x = lN 0 → llN x + 1 < 57) (hG2 : ∀ x k, G x → k < (lyG Y c e).2.2.2.2.2.2.2.2 → (lyG Y c e).2.1 k &&& (x ^^^ (-1)) = lN 0 → G (x &&& ((lyG Y c e).2.1 k ^^^ (-1))) ∧ M (x &&& ((lyG Y c e).2.1 k ^^^ (-1))) < M x) (hG3 : G (lfN Y.2.2.2.2.2.2.1 Y.2.1 Y.2.2.2.2.1)) (hM3 : M (lfN Y.2.2.2.2.2.2.1 Y.2.1 Y.2.2.2.2.1) < 56) (hpc : Y.2.2.2.2.1 ≤ 60) : pnCt mX7_search adK (d + 59) (lyM Y c e) (lyN Y c e) [.ref 0, .int (nI 0)] (hM Y P a b c e f g h) (pnIs (.inl (some (.int (nI (gsF (lyG Y c e) false 56 (lfN Y.2.2.2.2.2.2.1 Y.2.1 Y.2.2.2.2.1) 0 ((g.1, g.2.1, 0, 0, 0, false) : G6)).2.2.1)))) (hM Y P (0, a.2) b (lyC Y c e) (lyG Y c e) f (gsF (lyG Y c e) false 56 (lfN Y.2.2.2.2.2.2.1 Y.2.1 Y.2.2.2.2.1) 0 ((g.1, g.2.1, 0, 0, 0, false) : G6)) h)) := by
  refine pnCt_of (by decide) kX7_search (Nat.le_of_ble_eq_true rfl) rfl hM_cl (pnCS_b rfl) ?_
  have C0 := m_in adK d (nI 0).toInt64 (lN 0) (lN 2)
  rw [inL_range (by omega) (by omega) 0 (by omega) (by omega)] at C0
  obtain ⟨CS, hI⟩ := m_searches adK d Y P (0, a.2) b c e f g h false hp9 hO G M hG1 hG2 hG3 hM3 hpc
  generalize (gsF (lyG Y c e) false 56 (lfN Y.2.2.2.2.2.2.1 Y.2.1 Y.2.2.2.2.1) 0 ((g.1, g.2.1, 0, 0, 0, false) : G6)) = r at *
  obtain ⟨hI1, hI2⟩ := hI
  refine pn_aload_n (q := 1) dX7_search_0 rfl rfl rfl ?_
  refine pn_iconst (q := 2) (v := nI 0) dX7_search_1 rfl (by decide) ?_
  (refine pn_put (q := 5) fX7_63 dX7_search_2 rfl rfl (Nat.le_of_ble_eq_true rfl) (pnF_int _) ?_)
  refine pn_eq (h' := (hM Y P (0, a.2) b c e f g h)) (st' := _) rfl rfl ?_
  refine pn_aload_n (q := 6) dX7_search_5 rfl rfl rfl ?_
  refine pn_iload_n (q := 7) dX7_search_6 rfl rfl ?_
  refine pn_i2l (q := 8) dX7_search_7 rfl ?_
  refine pn_lconst (q := 9) (v := lN 0) dX7_search_8 rfl (by decide) ?_
  refine pn_ldc2 (q := 12) pw_1258 dX7_search_9 rfl ?_; refine pn_eq (h' := _) (st' := .long (lN 2) :: _) rfl rfl ?_
  refine pn_roS1 (q := 15) (C0) lkX7_92 dX7_search_12 rfl rfl (pnSel_of (I := []) rfl rfl) (pnFree_none rfl) rfl (by omega) (Nat.le_of_ble_eq_true rfl) rfl ?_
  refine pn_bne (q := 18) (tgt := 22) dX7_search_15 (by decide) rfl (fun hc15 => ?_) (fun hc15 => ?_)
  · refine pn_iconst (q := 23) (v := nB false) dX7_search_22 rfl (by decide) ?_
    refine pn_iconst (q := 24) (v := nI 1) dX7_search_23 rfl (by decide) ?_
    refine pn_iconst (q := 25) (v := nI 1) dX7_search_24 rfl (by decide) ?_
    refine pn_idV (q := 28) (bc9 := lyM Y c e) (bs9 := lyN Y c e) (m_badF adK d Y P (0, a.2) b c e f g h 1 1 rfl) lkX7_206 dX7_search_25 rfl rfl (hM_cl) (hM_cl) (Nat.le_of_ble_eq_true rfl) rfl rfl rfl rfl rfl rfl (by omega) (by omega) (by omega) (Nat.le_of_ble_eq_true rfl) ?_
    refine pn_beq (q := 31) (tgt := 33) dX7_search_28 (by decide) rfl (fun hc28 => ?_) (fun hc28 => ?_)
    · refine pn_aload_n (q := 34) dX7_search_33 rfl rfl rfl ?_
      refine pn_iconst (q := 35) (v := nB false) dX7_search_34 rfl (by decide) ?_
      refine pn_idV (q := 38) (bc9 := 0) (bs9 := 0) (CS) lkX7_307 dX7_search_35 rfl rfl (hM_cl) (hM_cl) (Nat.le_of_ble_eq_true rfl) rfl rfl rfl rfl rfl rfl (by omega) (by omega) (by omega) (Nat.le_of_ble_eq_true rfl) ?_
      refine pn_iload_n (q := 39) dX7_search_38 rfl rfl ?_
      first | refine pn_zne (q := 42) (tgt := 49) dX7_search_39 (by decide) rfl (by omega) (fun hc39 => ?_) (fun hc39 => ?_) | refine pn_if_ne (q := 42) (tgt := 49) dX7_search_39 (by decide) rfl (fun hc39 => ?_) (fun hc39 => ?_)
      · omega
      · refine pn_aload_n (q := 43) dX7_search_42 rfl rfl rfl ?_
        refine pn_get (q := 46) fX7_291 dX7_search_43 rfl rfl rfl ?_
        refine pn_goto (q := 73) dX7_search_46 (by decide) ?_
        refine pn_iret dX7_search_73 rfl ?_
        first | exact ⟨rfl, rfl⟩ | exact ⟨by rw [if_pos hc65], rfl⟩ | exact ⟨by rw [if_neg (by rw [hc65]; exact Bool.false_ne_true)], rfl⟩
    · cases hc28
  · cases hc15
set_option maxRecDepth 100000 in
theorem m_search1 (adK : Nat → Nat) (d : Nat) (Y : MN) (P : Nat → MN) (a : G0) (b : G1) (c : G3) (e : G4) (f : G5) (g : G6) (h : G7) (hp9 : lyP Y c e) (hO : lyO (lyG Y c e)) (G : Int64 → Prop) (M : Int64 → Nat) (hG1 : ∀ x, G x → ¬ x = lN 0 → llN x + 1 < 57) (hG2 : ∀ x k, G x → k < (lyG Y c e).2.2.2.2.2.2.2.2 → (lyG Y c e).2.1 k &&& (x ^^^ (-1)) = lN 0 → G (x &&& ((lyG Y c e).2.1 k ^^^ (-1))) ∧ M (x &&& ((lyG Y c e).2.1 k ^^^ (-1))) < M x) (hG3 : G (lfN Y.2.2.2.2.2.2.1 Y.2.1 Y.2.2.2.2.1)) (hM3 : M (lfN Y.2.2.2.2.2.2.1 Y.2.1 Y.2.2.2.2.1) < 56) (hpc : Y.2.2.2.2.1 ≤ 60) : pnCt mX7_search adK (d + 59) (lyM Y c e) (lyN Y c e) [.ref 0, .int (nI 1)] (hM Y P a b c e f g h) (pnIs (.inl (some (.int (nI (gsF (lyG Y c e) false 56 (lfN Y.2.2.2.2.2.2.1 Y.2.1 Y.2.2.2.2.1) 0 ((g.1, g.2.1, 0, 0, 0, false) : G6)).2.2.2.1)))) (hM Y P (0, a.2) b (lyC Y c e) (lyG Y c e) f (gsF (lyG Y c e) false 56 (lfN Y.2.2.2.2.2.2.1 Y.2.1 Y.2.2.2.2.1) 0 ((g.1, g.2.1, 0, 0, 0, false) : G6)) h)) := by
  refine pnCt_of (by decide) kX7_search (Nat.le_of_ble_eq_true rfl) rfl hM_cl (pnCS_b rfl) ?_
  have C0 := m_in adK d (nI 1).toInt64 (lN 0) (lN 2)
  rw [inL_range (by omega) (by omega) 1 (by omega) (by omega)] at C0
  obtain ⟨CS, hI⟩ := m_searches adK d Y P (0, a.2) b c e f g h false hp9 hO G M hG1 hG2 hG3 hM3 hpc
  generalize (gsF (lyG Y c e) false 56 (lfN Y.2.2.2.2.2.2.1 Y.2.1 Y.2.2.2.2.1) 0 ((g.1, g.2.1, 0, 0, 0, false) : G6)) = r at *
  obtain ⟨hI1, hI2⟩ := hI
  refine pn_aload_n (q := 1) dX7_search_0 rfl rfl rfl ?_
  refine pn_iconst (q := 2) (v := nI 0) dX7_search_1 rfl (by decide) ?_
  (refine pn_put (q := 5) fX7_63 dX7_search_2 rfl rfl (Nat.le_of_ble_eq_true rfl) (pnF_int _) ?_)
  refine pn_eq (h' := (hM Y P (0, a.2) b c e f g h)) (st' := _) rfl rfl ?_
  refine pn_aload_n (q := 6) dX7_search_5 rfl rfl rfl ?_
  refine pn_iload_n (q := 7) dX7_search_6 rfl rfl ?_
  refine pn_i2l (q := 8) dX7_search_7 rfl ?_
  refine pn_lconst (q := 9) (v := lN 0) dX7_search_8 rfl (by decide) ?_
  refine pn_ldc2 (q := 12) pw_1258 dX7_search_9 rfl ?_; refine pn_eq (h' := _) (st' := .long (lN 2) :: _) rfl rfl ?_
  refine pn_roS1 (q := 15) (C0) lkX7_92 dX7_search_12 rfl rfl (pnSel_of (I := []) rfl rfl) (pnFree_none rfl) rfl (by omega) (Nat.le_of_ble_eq_true rfl) rfl ?_
  refine pn_bne (q := 18) (tgt := 22) dX7_search_15 (by decide) rfl (fun hc15 => ?_) (fun hc15 => ?_)
  · refine pn_iconst (q := 23) (v := nB false) dX7_search_22 rfl (by decide) ?_
    refine pn_iconst (q := 24) (v := nI 1) dX7_search_23 rfl (by decide) ?_
    refine pn_iconst (q := 25) (v := nI 1) dX7_search_24 rfl (by decide) ?_
    refine pn_idV (q := 28) (bc9 := lyM Y c e) (bs9 := lyN Y c e) (m_badF adK d Y P (0, a.2) b c e f g h 1 1 rfl) lkX7_206 dX7_search_25 rfl rfl (hM_cl) (hM_cl) (Nat.le_of_ble_eq_true rfl) rfl rfl rfl rfl rfl rfl (by omega) (by omega) (by omega) (Nat.le_of_ble_eq_true rfl) ?_
    refine pn_beq (q := 31) (tgt := 33) dX7_search_28 (by decide) rfl (fun hc28 => ?_) (fun hc28 => ?_)
    · refine pn_aload_n (q := 34) dX7_search_33 rfl rfl rfl ?_
      refine pn_iconst (q := 35) (v := nB false) dX7_search_34 rfl (by decide) ?_
      refine pn_idV (q := 38) (bc9 := 0) (bs9 := 0) (CS) lkX7_307 dX7_search_35 rfl rfl (hM_cl) (hM_cl) (Nat.le_of_ble_eq_true rfl) rfl rfl rfl rfl rfl rfl (by omega) (by omega) (by omega) (Nat.le_of_ble_eq_true rfl) ?_
      refine pn_iload_n (q := 39) dX7_search_38 rfl rfl ?_
      first | refine pn_zne (q := 42) (tgt := 49) dX7_search_39 (by decide) rfl (by omega) (fun hc39 => ?_) (fun hc39 => ?_) | refine pn_if_ne (q := 42) (tgt := 49) dX7_search_39 (by decide) rfl (fun hc39 => ?_) (fun hc39 => ?_)
      · refine pn_iload_n (q := 50) dX7_search_49 rfl rfl ?_
        refine pn_iconst (q := 51) (v := nI 1) dX7_search_50 rfl (by decide) ?_
        first | refine pn_nne (q := 54) (tgt := 61) dX7_search_51 (by decide) rfl (by omega) (by omega) (fun hc51 => ?_) (fun hc51 => ?_) | refine pn_icmp_ne (q := 54) (tgt := 61) dX7_search_51 (by decide) rfl (fun hc51 => ?_) (fun hc51 => ?_)
        · omega
        · refine pn_aload_n (q := 55) dX7_search_54 rfl rfl rfl ?_
          refine pn_get (q := 58) fX7_300 dX7_search_55 rfl rfl rfl ?_
          refine pn_goto (q := 73) dX7_search_58 (by decide) ?_
          refine pn_iret dX7_search_73 rfl ?_
          first | exact ⟨rfl, rfl⟩ | exact ⟨by rw [if_pos hc65], rfl⟩ | exact ⟨by rw [if_neg (by rw [hc65]; exact Bool.false_ne_true)], rfl⟩
      · omega
    · cases hc28
  · cases hc15
set_option maxRecDepth 100000 in
theorem m_search2 (adK : Nat → Nat) (d : Nat) (Y : MN) (P : Nat → MN) (a : G0) (b : G1) (c : G3) (e : G4) (f : G5) (g : G6) (h : G7) (hp9 : lyP Y c e) (hO : lyO (lyG Y c e)) (G : Int64 → Prop) (M : Int64 → Nat) (hG1 : ∀ x, G x → ¬ x = lN 0 → llN x + 1 < 57) (hG2 : ∀ x k, G x → k < (lyG Y c e).2.2.2.2.2.2.2.2 → (lyG Y c e).2.1 k &&& (x ^^^ (-1)) = lN 0 → G (x &&& ((lyG Y c e).2.1 k ^^^ (-1))) ∧ M (x &&& ((lyG Y c e).2.1 k ^^^ (-1))) < M x) (hG3 : G (lfN Y.2.2.2.2.2.2.1 Y.2.1 Y.2.2.2.2.1)) (hM3 : M (lfN Y.2.2.2.2.2.2.1 Y.2.1 Y.2.2.2.2.1) < 56) (hpc : Y.2.2.2.2.1 ≤ 60) : pnCt mX7_search adK (d + 59) (lyM Y c e) (lyN Y c e) [.ref 0, .int (nI 2)] (hM Y P a b c e f g h) (pnIs (.inl (some (.int (nI (if (gsF (lyG Y c e) false 56 (lfN Y.2.2.2.2.2.2.1 Y.2.1 Y.2.2.2.2.1) 0 ((g.1, g.2.1, 0, 0, 0, false) : G6)).2.2.2.2.2 = true then 0 else 1))))) (hM Y P (0, a.2) b (lyC Y c e) (lyG Y c e) f (gsF (lyG Y c e) false 56 (lfN Y.2.2.2.2.2.2.1 Y.2.1 Y.2.2.2.2.1) 0 ((g.1, g.2.1, 0, 0, 0, false) : G6)) h)) := by
  refine pnCt_of (by decide) kX7_search (Nat.le_of_ble_eq_true rfl) rfl hM_cl (pnCS_b rfl) ?_
  have C0 := m_in adK d (nI 2).toInt64 (lN 0) (lN 2)
  rw [inL_range (by omega) (by omega) 2 (by omega) (by omega)] at C0
  obtain ⟨CS, hI⟩ := m_searches adK d Y P (0, a.2) b c e f g h false hp9 hO G M hG1 hG2 hG3 hM3 hpc
  generalize (gsF (lyG Y c e) false 56 (lfN Y.2.2.2.2.2.2.1 Y.2.1 Y.2.2.2.2.1) 0 ((g.1, g.2.1, 0, 0, 0, false) : G6)) = r at *
  obtain ⟨hI1, hI2⟩ := hI
  refine pn_aload_n (q := 1) dX7_search_0 rfl rfl rfl ?_
  refine pn_iconst (q := 2) (v := nI 0) dX7_search_1 rfl (by decide) ?_
  (refine pn_put (q := 5) fX7_63 dX7_search_2 rfl rfl (Nat.le_of_ble_eq_true rfl) (pnF_int _) ?_)
  refine pn_eq (h' := (hM Y P (0, a.2) b c e f g h)) (st' := _) rfl rfl ?_
  refine pn_aload_n (q := 6) dX7_search_5 rfl rfl rfl ?_
  refine pn_iload_n (q := 7) dX7_search_6 rfl rfl ?_
  refine pn_i2l (q := 8) dX7_search_7 rfl ?_
  refine pn_lconst (q := 9) (v := lN 0) dX7_search_8 rfl (by decide) ?_
  refine pn_ldc2 (q := 12) pw_1258 dX7_search_9 rfl ?_; refine pn_eq (h' := _) (st' := .long (lN 2) :: _) rfl rfl ?_
  refine pn_roS1 (q := 15) (C0) lkX7_92 dX7_search_12 rfl rfl (pnSel_of (I := []) rfl rfl) (pnFree_none rfl) rfl (by omega) (Nat.le_of_ble_eq_true rfl) rfl ?_
  refine pn_bne (q := 18) (tgt := 22) dX7_search_15 (by decide) rfl (fun hc15 => ?_) (fun hc15 => ?_)
  · refine pn_iconst (q := 23) (v := nB false) dX7_search_22 rfl (by decide) ?_
    refine pn_iconst (q := 24) (v := nI 1) dX7_search_23 rfl (by decide) ?_
    refine pn_iconst (q := 25) (v := nI 1) dX7_search_24 rfl (by decide) ?_
    refine pn_idV (q := 28) (bc9 := lyM Y c e) (bs9 := lyN Y c e) (m_badF adK d Y P (0, a.2) b c e f g h 1 1 rfl) lkX7_206 dX7_search_25 rfl rfl (hM_cl) (hM_cl) (Nat.le_of_ble_eq_true rfl) rfl rfl rfl rfl rfl rfl (by omega) (by omega) (by omega) (Nat.le_of_ble_eq_true rfl) ?_
    refine pn_beq (q := 31) (tgt := 33) dX7_search_28 (by decide) rfl (fun hc28 => ?_) (fun hc28 => ?_)
    · refine pn_aload_n (q := 34) dX7_search_33 rfl rfl rfl ?_
      refine pn_iconst (q := 35) (v := nB false) dX7_search_34 rfl (by decide) ?_
      refine pn_idV (q := 38) (bc9 := 0) (bs9 := 0) (CS) lkX7_307 dX7_search_35 rfl rfl (hM_cl) (hM_cl) (Nat.le_of_ble_eq_true rfl) rfl rfl rfl rfl rfl rfl (by omega) (by omega) (by omega) (Nat.le_of_ble_eq_true rfl) ?_
      refine pn_iload_n (q := 39) dX7_search_38 rfl rfl ?_
      first | refine pn_zne (q := 42) (tgt := 49) dX7_search_39 (by decide) rfl (by omega) (fun hc39 => ?_) (fun hc39 => ?_) | refine pn_if_ne (q := 42) (tgt := 49) dX7_search_39 (by decide) rfl (fun hc39 => ?_) (fun hc39 => ?_)
      · refine pn_iload_n (q := 50) dX7_search_49 rfl rfl ?_
        refine pn_iconst (q := 51) (v := nI 1) dX7_search_50 rfl (by decide) ?_
        first | refine pn_nne (q := 54) (tgt := 61) dX7_search_51 (by decide) rfl (by omega) (by omega) (fun hc51 => ?_) (fun hc51 => ?_) | refine pn_icmp_ne (q := 54) (tgt := 61) dX7_search_51 (by decide) rfl (fun hc51 => ?_) (fun hc51 => ?_)
        · refine pn_aload_n (q := 62) dX7_search_61 rfl rfl rfl ?_
          refine pn_get (q := 65) fX7_297 dX7_search_62 rfl rfl rfl ?_
          refine pn_beq (q := 68) (tgt := 72) dX7_search_65 (by decide) rfl (fun hc65 => ?_) (fun hc65 => ?_)
          · refine pn_iconst (q := 73) (v := nI 1) dX7_search_72 rfl (by decide) ?_
            refine pn_iret dX7_search_73 rfl ?_
            first | exact ⟨rfl, rfl⟩ | exact ⟨by rw [if_pos hc65], rfl⟩ | exact ⟨by rw [if_neg (by rw [hc65]; exact Bool.false_ne_true)], rfl⟩
          · refine pn_iconst (q := 69) (v := nI 0) dX7_search_68 rfl (by decide) ?_
            refine pn_goto (q := 73) dX7_search_69 (by decide) ?_
            refine pn_iret dX7_search_73 rfl ?_
            first | exact ⟨rfl, rfl⟩ | exact ⟨by rw [if_pos hc65], rfl⟩ | exact ⟨by rw [if_neg (by rw [hc65]; exact Bool.false_ne_true)], rfl⟩
        · omega
      · omega
    · cases hc28
  · cases hc15
set_option maxRecDepth 100000 in
theorem m_finishNo (adK : Nat → Nat) (d : Nat) (Y : MN) (P : Nat → MN) (a : G0) (b : G1) (c : G3) (e : G4) (f : G5) (g : G6) (h : G7) (hp9 : lyP Y c e) (hO : lyO (lyG Y c e)) (G : Int64 → Prop) (M : Int64 → Nat) (hG1 : ∀ x, G x → ¬ x = lN 0 → llN x + 1 < 57) (hG2 : ∀ x k, G x → k < (lyG Y c e).2.2.2.2.2.2.2.2 → (lyG Y c e).2.1 k &&& (x ^^^ (-1)) = lN 0 → G (x &&& ((lyG Y c e).2.1 k ^^^ (-1))) ∧ M (x &&& ((lyG Y c e).2.1 k ^^^ (-1))) < M x) (hG3 : G (lfN Y.2.2.2.2.2.2.1 Y.2.1 Y.2.2.2.2.1)) (hM3 : M (lfN Y.2.2.2.2.2.2.1 Y.2.1 Y.2.2.2.2.1) < 56) (hpc : Y.2.2.2.2.1 ≤ 60) (h0 : (gsF (lyG Y c e) true 56 (lfN Y.2.2.2.2.2.2.1 Y.2.1 Y.2.2.2.2.1) 0 ((g.1, g.2.1, 0, 0, 0, false) : G6)).2.2.1 = 0) : pnCt mX7_finish adK (d + 59) (lyM Y c e) (lyN Y c e) [.ref 0] (hM Y P a b c e f g h) (pnIs (.inl (some (.int (-1)))) (hM Y P (0, a.2) b (lyC Y c e) (lyG Y c e) f (gsF (lyG Y c e) true 56 (lfN Y.2.2.2.2.2.2.1 Y.2.1 Y.2.2.2.2.1) 0 ((g.1, g.2.1, 0, 0, 0, false) : G6)) h)) := by
  refine pnCt_of (by decide) kX7_finish (Nat.le_of_ble_eq_true rfl) rfl hM_cl (pnCS_b rfl) ?_
  obtain ⟨CS, hI⟩ := m_searches adK d Y P (0, a.2) b c e f g h true hp9 hO G M hG1 hG2 hG3 hM3 hpc
  generalize (gsF (lyG Y c e) true 56 (lfN Y.2.2.2.2.2.2.1 Y.2.1 Y.2.2.2.2.1) 0 ((g.1, g.2.1, 0, 0, 0, false) : G6)) = r at *
  refine pn_aload_n (q := 1) dX7_finish_0 rfl rfl rfl ?_
  refine pn_iconst (q := 2) (v := nI 0) dX7_finish_1 rfl (by decide) ?_
  (refine pn_put (q := 5) fX7_63 dX7_finish_2 rfl rfl (Nat.le_of_ble_eq_true rfl) (pnF_int _) ?_)
  refine pn_eq (h' := (hM Y P (0, a.2) b c e f g h)) (st' := _) rfl rfl ?_
  refine pn_aload_n (q := 6) dX7_finish_5 rfl rfl rfl ?_
  refine pn_iconst (q := 7) (v := nB true) dX7_finish_6 rfl (by decide) ?_
  refine pn_idV (q := 10) (bc9 := 0) (bs9 := 0) (CS) lkX7_307 dX7_finish_7 rfl rfl (hM_cl) (hM_cl) (Nat.le_of_ble_eq_true rfl) rfl rfl rfl rfl rfl rfl (by omega) (by omega) (by omega) (Nat.le_of_ble_eq_true rfl) ?_
  refine pn_aload_n (q := 11) dX7_finish_10 rfl rfl rfl ?_
  refine pn_get (q := 14) fX7_291 dX7_finish_11 rfl rfl rfl ?_
  first | refine pn_zne (q := 17) (tgt := 19) dX7_finish_14 (by decide) rfl (by omega) (fun hc14 => ?_) (fun hc14 => ?_) | refine pn_if_ne (q := 17) (tgt := 19) dX7_finish_14 (by decide) rfl (fun hc14 => ?_) (fun hc14 => ?_)
  · exact (hc14 h0).elim
  · refine pn_iconst (q := 18) (v := (-1)) dX7_finish_17 rfl (by decide) ?_
    refine pn_iret dX7_finish_18 rfl ?_
    exact ⟨rfl, rfl⟩
def fiY (Y : MN) (C : Nat → Int64) : Nat → MN
  | 0 => Y
  | i + 1 => yP (fiY Y C i) ((fiY Y C i).2.2.2.2.1 + 1) (vp_updL (fiY Y C i).2.2.2.2.2.2.1 (fiY Y C i).2.2.2.2.1 (C i))
theorem fiY_pc (Y : MN) (C : Nat → Int64) : ∀ i, (fiY Y C i).2.2.2.2.1 = Y.2.2.2.2.1 + i
  | 0 => rfl
  | i + 1 => by
    show (fiY Y C i).2.2.2.2.1 + 1 = Y.2.2.2.2.1 + (i + 1)
    rw [fiY_pc Y C i]
    omega
set_option maxRecDepth 100000 in
theorem m_finish (adK : Nat → Nat) (d : Nat) (Y : MN) (P : Nat → MN) (a : G0) (b : G1) (c : G3) (e : G4) (f : G5) (g : G6) (h : G7) (hp9 : lyP Y c e) (hO : lyO (lyG Y c e)) (G : Int64 → Prop) (M : Int64 → Nat) (hG1 : ∀ x, G x → ¬ x = lN 0 → llN x + 1 < 57) (hG2 : ∀ x k, G x → k < (lyG Y c e).2.2.2.2.2.2.2.2 → (lyG Y c e).2.1 k &&& (x ^^^ (-1)) = lN 0 → G (x &&& ((lyG Y c e).2.1 k ^^^ (-1))) ∧ M (x &&& ((lyG Y c e).2.1 k ^^^ (-1))) < M x) (hG3 : G (lfN Y.2.2.2.2.2.2.1 Y.2.1 Y.2.2.2.2.1)) (hM3 : M (lfN Y.2.2.2.2.2.2.1 Y.2.1 Y.2.2.2.2.1) < 56) (hpc : Y.2.2.2.2.1 ≤ 60) (h0 : ¬ (gsF (lyG Y c e) true 56 (lfN Y.2.2.2.2.2.2.1 Y.2.1 Y.2.2.2.2.1) 0 ((g.1, g.2.1, 0, 0, 0, false) : G6)).2.2.1 = 0) (ha : a.2.2.2.2 ≤ 8) (hcm : (gsF (lyG Y c e) true 56 (lfN Y.2.2.2.2.2.2.1 Y.2.1 Y.2.2.2.2.1) 0 ((g.1, g.2.1, 0, 0, 0, false) : G6)).2.2.2.2.1 ≤ 55) (hcm2 : Y.2.2.2.2.1 + (gsF (lyG Y c e) true 56 (lfN Y.2.2.2.2.2.2.1 Y.2.1 Y.2.2.2.2.1) 0 ((g.1, g.2.1, 0, 0, 0, false) : G6)).2.2.2.2.1 ≤ 60) : pnCt mX7_finish adK (d + 59) (lyM Y c e) (lyN Y c e) [.ref 0] (hM Y P a b c e f g h) (pnIs (.inl (some (.int (nI (gsF (lyG Y c e) true 56 (lfN Y.2.2.2.2.2.2.1 Y.2.1 Y.2.2.2.2.1) 0 ((g.1, g.2.1, 0, 0, 0, false) : G6)).2.2.2.2.1)))) (hM (fiY Y (gsF (lyG Y c e) true 56 (lfN Y.2.2.2.2.2.2.1 Y.2.1 Y.2.2.2.2.1) 0 ((g.1, g.2.1, 0, 0, 0, false) : G6)).2.1 (gsF (lyG Y c e) true 56 (lfN Y.2.2.2.2.2.2.1 Y.2.1 Y.2.2.2.2.1) 0 ((g.1, g.2.1, 0, 0, 0, false) : G6)).2.2.2.2.1) (keP P Y a.2.2.2.2) (keB ((0, a.2) : G0)) b (lyC Y c e) (lyG Y c e) f (gsF (lyG Y c e) true 56 (lfN Y.2.2.2.2.2.2.1 Y.2.1 Y.2.2.2.2.1) 0 ((g.1, g.2.1, 0, 0, 0, false) : G6)) h)) := by
  refine pnCt_of (by decide) kX7_finish (Nat.le_of_ble_eq_true rfl) rfl hM_cl (pnCS_b rfl) ?_
  obtain ⟨CS, hI⟩ := m_searches adK d Y P (0, a.2) b c e f g h true hp9 hO G M hG1 hG2 hG3 hM3 hpc
  generalize (gsF (lyG Y c e) true 56 (lfN Y.2.2.2.2.2.2.1 Y.2.1 Y.2.2.2.2.1) 0 ((g.1, g.2.1, 0, 0, 0, false) : G6)) = r at *
  generalize (lyG Y c e) = e1 at *
  generalize (lyC Y c e) = c1 at *
  obtain ⟨hI1, hI2⟩ := hI
  have CR := m_remembers adK d Y P (0, a.2) b c1 e1 f r h ha
  have loop : ∀ (z i : Nat), i + z = r.2.2.2.2.1 → pnWP mX7_finish adK (d + 59) (pnIs (.inl (some (.int (nI r.2.2.2.2.1)))) (hM (fiY Y r.2.1 r.2.2.2.2.1) (keP P Y a.2.2.2.2) (keB ((0, a.2) : G0)) b c1 e1 f r h)) 0 0 (hM (fiY Y r.2.1 i) (keP P Y a.2.2.2.2) (keB ((0, a.2) : G0)) b c1 e1 f r h) [some (.ref 0), some (.int (nI i))] [] 25 := by
    intro z
    induction z with
    | zero =>
      intro i hi
      have hii : i = r.2.2.2.2.1 := by omega
      subst hii
      refine pn_iload_n (q := 26) dX7_finish_25 rfl rfl ?_
      refine pn_aload_n (q := 27) dX7_finish_26 rfl rfl rfl ?_
      refine pn_get (q := 30) fX7_294 dX7_finish_27 rfl rfl rfl ?_
      first | refine pn_nge (q := 33) (tgt := 49) dX7_finish_30 (by decide) rfl (by omega) (by omega) (fun hc30 => ?_) (fun hc30 => ?_) | refine pn_icmp_ge (q := 33) (tgt := 49) dX7_finish_30 (by decide) rfl (fun hc30 => ?_) (fun hc30 => ?_)
      · refine pn_aload_n (q := 50) dX7_finish_49 rfl rfl rfl ?_
        refine pn_get (q := 53) fX7_294 dX7_finish_50 rfl rfl rfl ?_
        refine pn_iret dX7_finish_53 rfl ?_
        exact ⟨rfl, rfl⟩
      · omega
    | succ z ih =>
      intro i hi
      have CC := m_comes adK d (fiY Y r.2.1 i) (keP P Y a.2.2.2.2) (keB ((0, a.2) : G0)) b c1 e1 f r h (r.2.1 i) (by rw [fiY_pc]; omega)
      refine pn_iload_n (q := 26) dX7_finish_25 rfl rfl ?_
      refine pn_aload_n (q := 27) dX7_finish_26 rfl rfl rfl ?_
      refine pn_get (q := 30) fX7_294 dX7_finish_27 rfl rfl rfl ?_
      first | refine pn_nge (q := 33) (tgt := 49) dX7_finish_30 (by decide) rfl (by omega) (by omega) (fun hc30 => ?_) (fun hc30 => ?_) | refine pn_icmp_ge (q := 33) (tgt := 49) dX7_finish_30 (by decide) rfl (fun hc30 => ?_) (fun hc30 => ?_)
      · omega
      · refine pn_aload_n (q := 34) dX7_finish_33 rfl rfl rfl ?_
        refine pn_aload_n (q := 35) dX7_finish_34 rfl rfl rfl ?_
        refine pn_get (q := 38) fX7_53 dX7_finish_35 rfl rfl rfl ?_
        refine pn_iload_n (q := 39) dX7_finish_38 rfl rfl ?_
        refine pn_lald1 (q := 40) dX7_finish_39 rfl rfl rfl (by omega) (by decide) ?_
        refine pn_idV (q := 43) (bc9 := 0) (bs9 := 0) (CC) lkX7_271 dX7_finish_40 rfl rfl (hM_cl) (hM_cl) (Nat.le_of_ble_eq_true rfl) rfl rfl rfl rfl rfl rfl (by omega) (by omega) (by omega) (Nat.le_of_ble_eq_true rfl) ?_
        first | refine pn_iinc1 (q := 46) dX7_finish_43 rfl rfl (by decide) ?_ | refine pn_iinc (q := 46) (mm := 1) dX7_finish_43 rfl rfl (by decide) (by decide) ?_
        refine pn_goto (q := 25) dX7_finish_46 (by decide) ?_
        exact ih (i + 1) (by omega)
  refine pn_aload_n (q := 1) dX7_finish_0 rfl rfl rfl ?_
  refine pn_iconst (q := 2) (v := nI 0) dX7_finish_1 rfl (by decide) ?_
  (refine pn_put (q := 5) fX7_63 dX7_finish_2 rfl rfl (Nat.le_of_ble_eq_true rfl) (pnF_int _) ?_)
  refine pn_eq (h' := (hM Y P (0, a.2) b c e f g h)) (st' := _) rfl rfl ?_
  refine pn_aload_n (q := 6) dX7_finish_5 rfl rfl rfl ?_
  refine pn_iconst (q := 7) (v := nB true) dX7_finish_6 rfl (by decide) ?_
  refine pn_idV (q := 10) (bc9 := 0) (bs9 := 0) (CS) lkX7_307 dX7_finish_7 rfl rfl (hM_cl) (hM_cl) (Nat.le_of_ble_eq_true rfl) rfl rfl rfl rfl rfl rfl (by omega) (by omega) (by omega) (Nat.le_of_ble_eq_true rfl) ?_
  refine pn_aload_n (q := 11) dX7_finish_10 rfl rfl rfl ?_
  refine pn_get (q := 14) fX7_291 dX7_finish_11 rfl rfl rfl ?_
  first | refine pn_zne (q := 17) (tgt := 19) dX7_finish_14 (by decide) rfl (by omega) (fun hc14 => ?_) (fun hc14 => ?_) | refine pn_if_ne (q := 17) (tgt := 19) dX7_finish_14 (by decide) rfl (fun hc14 => ?_) (fun hc14 => ?_)
  · refine pn_aload_n (q := 20) dX7_finish_19 rfl rfl rfl ?_
    refine pn_idV (q := 23) (bc9 := 0) (bs9 := 0) (CR) lkX7_218 dX7_finish_20 rfl rfl (hM_cl) (hM_cl) (Nat.le_of_ble_eq_true rfl) rfl rfl rfl rfl rfl rfl (by omega) (by omega) (by omega) (Nat.le_of_ble_eq_true rfl) ?_
    refine pn_iconst (q := 24) (v := nI 0) dX7_finish_23 rfl (by decide) ?_
    refine pn_istore_n (q := 25) dX7_finish_24 rfl (by decide) ?_
    exact loop r.2.2.2.2.1 0 (by omega)
  · exact (h0 hc14).elim
