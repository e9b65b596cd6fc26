/-- no base has two nodes that are one round m nodes -/
abbrev unP (pl bc : Nat) (bN : Nat → Nat) (m : Nat) : Prop := ∀ u, u < bc → ∀ i, i < pl → ∀ j, j < i → bN (u * 5 + i) % m ≠ bN (u * 5 + j) % m
set_option maxRecDepth 100000 in
theorem m_areUnlike (adK : Nat → Nat) (d : Nat) (Y : MN) (P : Nat → MN) (a : G0) (b : G1) (c : G3) (e : G4) (f : G5) (g : G6) (h : G7) (bN : Nat → Nat) (m : Nat) (hS : shOk Y.2.2.1 Y.2.2.2.1) (hB : bsOk Y bN) (hm : 1 ≤ m) (hm2 : m ≤ 31) : pnCt mX7_areUnlike adK (d + 1) 0 0 [.ref 0, .int (nI m)] (hM Y P a b c e f g h) (pnIs (.inl (some (.int (nB (decide (unP (plN Y.2.2.1 Y.2.2.2.1) Y.2.2.2.2.2.1 bN m)))))) (hM Y P a b c e f g h)) := by
  refine pnCt_of (by decide) kX7_areUnlike (Nat.le_of_ble_eq_true rfl) rfl hM_cl (pnCS_b rfl) ?_
  obtain ⟨hbc, hbN, hB2⟩ := hB
  obtain ⟨b1, b2, b3, b4, b5, b6⟩ := shOk_b hS
  have lpJ : ∀ u i, u < Y.2.2.2.2.2.1 → i < plN Y.2.2.1 Y.2.2.2.1 → ((∀ j, j < i → bN (u * 5 + i) % m ≠ bN (u * 5 + j) % m) → pnWP mX7_areUnlike adK (d + 1) (pnIs (.inl (some (.int (nB (decide (unP (plN Y.2.2.1 Y.2.2.2.1) Y.2.2.2.2.2.1 bN m)))))) (hM Y P a b c e f g h)) 0 0 (hM Y P a b c e f g h) [some (.ref 0), some (.int (nI m)), some (.int (nI u)), some (.int (nI i))] [] 62) →
      ∀ (z j : Nat), j + z = i → (∀ j', j' < j → bN (u * 5 + i) % m ≠ bN (u * 5 + j') % m) → pnWP mX7_areUnlike adK (d + 1) (pnIs (.inl (some (.int (nB (decide (unP (plN Y.2.2.1 Y.2.2.2.1) Y.2.2.2.2.2.1 bN m)))))) (hM Y P a b c e f g h)) 0 0 (hM Y P a b c e f g h) [some (.ref 0), some (.int (nI m)), some (.int (nI u)), some (.int (nI i)), some (.int (nI j))] [] 28 := by
    intro u i hu hi kk z
    obtain ⟨l1, l2⟩ := hB2 u hu
    induction z with
    | zero =>
      intro j hj H
      have hji : j = i := by omega
      subst hji
      refine pn_iload (q := 30) dX7_areUnlike_28 rfl rfl ?_
      refine pn_iload_n (q := 31) dX7_areUnlike_30 rfl rfl ?_
      first | refine pn_nge (q := 34) (tgt := 62) dX7_areUnlike_31 (by decide) rfl (by omega) (by omega) (fun hc31 => ?_) (fun hc31 => ?_) | refine pn_icmp_ge (q := 34) (tgt := 62) dX7_areUnlike_31 (by decide) rfl (fun hc31 => ?_) (fun hc31 => ?_)
      · exact pn_take 4 (kk H)
      · omega
    | succ z ih =>
      intro j hj H
      have C0 := m_baseNode adK d Y P a b c e f g h u i (by omega) (by omega)
      have C1 := m_baseNode adK d Y P a b c e f g h u j (by omega) (by omega)
      rw [l2 i (by omega)] at C0
      rw [l2 j (by omega)] at C1
      have n1 := hbN (u * 5 + i)
      have n2 := hbN (u * 5 + j)
      have q1 : bN (u * 5 + i) % m < m := Nat.mod_lt _ hm
      have q2 : bN (u * 5 + j) % m < m := Nat.mod_lt _ hm
      refine pn_iload (q := 30) dX7_areUnlike_28 rfl rfl ?_
      refine pn_iload_n (q := 31) dX7_areUnlike_30 rfl rfl ?_
      first | refine pn_nge (q := 34) (tgt := 62) dX7_areUnlike_31 (by decide) rfl (by omega) (by omega) (fun hc31 => ?_) (fun hc31 => ?_) | refine pn_icmp_ge (q := 34) (tgt := 62) dX7_areUnlike_31 (by decide) rfl (fun hc31 => ?_) (fun hc31 => ?_)
      · omega
      · refine pn_aload_n (q := 35) dX7_areUnlike_34 rfl rfl rfl ?_
        refine pn_iload_n (q := 36) dX7_areUnlike_35 rfl rfl ?_
        refine pn_iload_n (q := 37) dX7_areUnlike_36 rfl rfl ?_
        refine pn_idV (q := 40) (bc9 := 0) (bs9 := 0) (C0) lkX7_314 dX7_areUnlike_37 rfl rfl (hM_cl) (hM_cl) (Nat.le_of_ble_eq_true rfl) rfl rfl rfl rfl rfl rfl (by omega) (by omega) (by omega) (Nat.le_of_ble_eq_true rfl) ?_
        refine pn_iload_n (q := 41) dX7_areUnlike_40 rfl rfl ?_
        refine pn_iremN (q := 42) dX7_areUnlike_41 rfl (by omega) ?_
        refine pn_aload_n (q := 43) dX7_areUnlike_42 rfl rfl rfl ?_
        refine pn_iload_n (q := 44) dX7_areUnlike_43 rfl rfl ?_
        refine pn_iload (q := 46) dX7_areUnlike_44 rfl rfl ?_
        refine pn_idV (q := 49) (bc9 := 0) (bs9 := 0) (C1) lkX7_314 dX7_areUnlike_46 rfl rfl (hM_cl) (hM_cl) (Nat.le_of_ble_eq_true rfl) rfl rfl rfl rfl rfl rfl (by omega) (by omega) (by omega) (Nat.le_of_ble_eq_true rfl) ?_
        refine pn_iload_n (q := 50) dX7_areUnlike_49 rfl rfl ?_
        refine pn_iremN (q := 51) dX7_areUnlike_50 rfl (by omega) ?_
        first | refine pn_nne (q := 54) (tgt := 56) dX7_areUnlike_51 (by decide) rfl (by omega) (by omega) (fun hc51 => ?_) (fun hc51 => ?_) | refine pn_icmp_ne (q := 54) (tgt := 56) dX7_areUnlike_51 (by decide) rfl (fun hc51 => ?_) (fun hc51 => ?_)
        · first | refine pn_iinc1 (q := 59) dX7_areUnlike_56 rfl rfl (by decide) ?_ | refine pn_iinc (q := 59) (mm := 1) dX7_areUnlike_56 rfl rfl (by decide) (by decide) ?_
          refine pn_goto (q := 28) dX7_areUnlike_59 (by decide) ?_
          exact ih (j + 1) (by omega) (fun j' hj' => by rcases Nat.lt_or_eq_of_le (Nat.le_of_lt_succ hj') with q | q; exact H j' q; rw [q]; exact hc51)
        · refine pn_iconst (q := 55) (v := nI 0) dX7_areUnlike_54 rfl (by decide) ?_
          refine pn_tret (b := decide (unP (plN Y.2.2.1 Y.2.2.2.1) Y.2.2.2.2.2.1 bN m)) _ ?_ dX7_areUnlike_55 rfl ?_
          · rw [decide_eq_false (fun hh => hh u hu i hi j (by omega) (by omega))]; rfl
          · exact ⟨rfl, rfl⟩
  have lpI : ∀ u, u < Y.2.2.2.2.2.1 → ((∀ i, i < plN Y.2.2.1 Y.2.2.2.1 → ∀ j, j < i → bN (u * 5 + i) % m ≠ bN (u * 5 + j) % m) → pnWP mX7_areUnlike adK (d + 1) (pnIs (.inl (some (.int (nB (decide (unP (plN Y.2.2.1 Y.2.2.2.1) Y.2.2.2.2.2.1 bN m)))))) (hM Y P a b c e f g h)) 0 0 (hM Y P a b c e f g h) [some (.ref 0), some (.int (nI m)), some (.int (nI u))] [] 68) →
      ∀ (z i : Nat), i + z = plN Y.2.2.1 Y.2.2.2.1 → (∀ i', i' < i → ∀ j, j < i' → bN (u * 5 + i') % m ≠ bN (u * 5 + j) % m) → pnWP mX7_areUnlike adK (d + 1) (pnIs (.inl (some (.int (nB (decide (unP (plN Y.2.2.1 Y.2.2.2.1) Y.2.2.2.2.2.1 bN m)))))) (hM Y P a b c e f g h)) 0 0 (hM Y P a b c e f g h) [some (.ref 0), some (.int (nI m)), some (.int (nI u)), some (.int (nI i))] [] 16 := by
    intro u hu kk z
    have CL := m_baseLong adK d Y P a b c e f g h u (by omega)
    rw [(hB2 u (by omega)).1] at CL
    induction z with
    | zero =>
      intro i hi H
      have hii : i = plN Y.2.2.1 Y.2.2.2.1 := by omega
      rw [hii] at H
      refine pn_iload_n (q := 17) dX7_areUnlike_16 rfl rfl ?_
      refine pn_aload_n (q := 18) dX7_areUnlike_17 rfl rfl rfl ?_
      refine pn_iload_n (q := 19) dX7_areUnlike_18 rfl rfl ?_
      refine pn_idV (q := 22) (bc9 := 0) (bs9 := 0) (CL) lkX7_311 dX7_areUnlike_19 rfl rfl (hM_cl) (hM_cl) (Nat.le_of_ble_eq_true rfl) rfl rfl rfl rfl rfl rfl (by omega) (by omega) (by omega) (Nat.le_of_ble_eq_true rfl) ?_
      first | refine pn_nge (q := 25) (tgt := 68) dX7_areUnlike_22 (by decide) rfl (by omega) (by omega) (fun hc22 => ?_) (fun hc22 => ?_) | refine pn_icmp_ge (q := 25) (tgt := 68) dX7_areUnlike_22 (by decide) rfl (fun hc22 => ?_) (fun hc22 => ?_)
      · exact pn_take 3 (kk H)
      · omega
    | succ z ih =>
      intro i hi H
      have k62 : (∀ j, j < i → bN (u * 5 + i) % m ≠ bN (u * 5 + j) % m) → pnWP mX7_areUnlike adK (d + 1) (pnIs (.inl (some (.int (nB (decide (unP (plN Y.2.2.1 Y.2.2.2.1) Y.2.2.2.2.2.1 bN m)))))) (hM Y P a b c e f g h)) 0 0 (hM Y P a b c e f g h) [some (.ref 0), some (.int (nI m)), some (.int (nI u)), some (.int (nI i))] [] 62 := by
        intro H2
        first | refine pn_iinc1 (q := 65) dX7_areUnlike_62 rfl rfl (by decide) ?_ | refine pn_iinc (q := 65) (mm := 1) dX7_areUnlike_62 rfl rfl (by decide) (by decide) ?_
        refine pn_goto (q := 16) dX7_areUnlike_65 (by decide) ?_
        exact ih (i + 1) (by omega) (fun i' hi' => by rcases Nat.lt_or_eq_of_le (Nat.le_of_lt_succ hi') with q | q; exact H i' q; rw [q]; exact H2)
      refine pn_iload_n (q := 17) dX7_areUnlike_16 rfl rfl ?_
      refine pn_aload_n (q := 18) dX7_areUnlike_17 rfl rfl rfl ?_
      refine pn_iload_n (q := 19) dX7_areUnlike_18 rfl rfl ?_
      refine pn_idV (q := 22) (bc9 := 0) (bs9 := 0) (CL) lkX7_311 dX7_areUnlike_19 rfl rfl (hM_cl) (hM_cl) (Nat.le_of_ble_eq_true rfl) rfl rfl rfl rfl rfl rfl (by omega) (by omega) (by omega) (Nat.le_of_ble_eq_true rfl) ?_
      first | refine pn_nge (q := 25) (tgt := 68) dX7_areUnlike_22 (by decide) rfl (by omega) (by omega) (fun hc22 => ?_) (fun hc22 => ?_) | refine pn_icmp_ge (q := 25) (tgt := 68) dX7_areUnlike_22 (by decide) rfl (fun hc22 => ?_) (fun hc22 => ?_)
      · omega
      · refine pn_iconst (q := 26) (v := nI 0) dX7_areUnlike_25 rfl (by decide) ?_
        refine pn_istore (q := 28) dX7_areUnlike_26 rfl (by decide) ?_
        exact lpJ u i hu (by omega) k62 i 0 (by omega) (fun j' hj' => absurd hj' (Nat.not_lt_zero _))
  have lpU : ∀ (z u : Nat), u + z = Y.2.2.2.2.2.1 → (∀ u', u' < u → ∀ i, i < plN Y.2.2.1 Y.2.2.2.1 → ∀ j, j < i → bN (u' * 5 + i) % m ≠ bN (u' * 5 + j) % m) → pnWP mX7_areUnlike adK (d + 1) (pnIs (.inl (some (.int (nB (decide (unP (plN Y.2.2.1 Y.2.2.2.1) Y.2.2.2.2.2.1 bN m)))))) (hM Y P a b c e f g h)) 0 0 (hM Y P a b c e f g h) [some (.ref 0), some (.int (nI m)), some (.int (nI u))] [] 2 := by
    intro z
    induction z with
    | zero =>
      intro u hu H
      have huu : u = Y.2.2.2.2.2.1 := by omega
      rw [huu] at H
      refine pn_iload_n (q := 3) dX7_areUnlike_2 rfl rfl ?_
      first | with_reducible refine pn_i2lN (q := 4) dX7_areUnlike_3 rfl (by omega) ?_ | refine pn_i2l (q := 4) dX7_areUnlike_3 rfl ?_
      refine pn_aload_n (q := 5) dX7_areUnlike_4 rfl rfl rfl ?_
      refine pn_get (q := 8) fX7_20 dX7_areUnlike_5 rfl rfl rfl ?_
      refine pn_iconst (q := 9) (v := nI 4) dX7_areUnlike_8 rfl (by decide) ?_
      (first | refine pn_lald1 (q := 10) dX7_areUnlike_9 rfl rfl rfl (by omega) (by first | decide | omega) ?_ | refine pn_lald5 (q := 10) dX7_areUnlike_9 rfl rfl rfl (by omega) (by first | decide | omega) ?_); refine pn_eq (h' := _) (st' := .long (lN Y.2.2.2.2.2.1) :: _) rfl rfl ?_
      refine pn_lge (q1 := 11) (q := 14) (tgt := 74) dX7_areUnlike_10 rfl dX7_areUnlike_11 (by decide) rfl (fun hc10 => ?_) (fun hc10 => ?_)
      · refine pn_iconst (q := 75) (v := nI 1) dX7_areUnlike_74 rfl (by decide) ?_
        refine pn_tret (b := decide (unP (plN Y.2.2.1 Y.2.2.2.1) Y.2.2.2.2.2.1 bN m)) _ ?_ dX7_areUnlike_75 rfl ?_
        · rw [decide_eq_true H]; rfl
        · exact ⟨rfl, rfl⟩
      · exact (hc10 ((lN_leI (by omega) (by omega)).mpr (by omega))).elim
    | succ z ih =>
      intro u hu H
      have k68 : (∀ i, i < plN Y.2.2.1 Y.2.2.2.1 → ∀ j, j < i → bN (u * 5 + i) % m ≠ bN (u * 5 + j) % m) → pnWP mX7_areUnlike adK (d + 1) (pnIs (.inl (some (.int (nB (decide (unP (plN Y.2.2.1 Y.2.2.2.1) Y.2.2.2.2.2.1 bN m)))))) (hM Y P a b c e f g h)) 0 0 (hM Y P a b c e f g h) [some (.ref 0), some (.int (nI m)), some (.int (nI u))] [] 68 := by
        intro H2
        first | refine pn_iinc1 (q := 71) dX7_areUnlike_68 rfl rfl (by decide) ?_ | refine pn_iinc (q := 71) (mm := 1) dX7_areUnlike_68 rfl rfl (by decide) (by decide) ?_
        refine pn_goto (q := 2) dX7_areUnlike_71 (by decide) ?_
        exact ih (u + 1) (by omega) (fun u' hu' => by rcases Nat.lt_or_eq_of_le (Nat.le_of_lt_succ hu') with q | q; exact H u' q; rw [q]; exact H2)
      refine pn_iload_n (q := 3) dX7_areUnlike_2 rfl rfl ?_
      first | with_reducible refine pn_i2lN (q := 4) dX7_areUnlike_3 rfl (by omega) ?_ | refine pn_i2l (q := 4) dX7_areUnlike_3 rfl ?_
      refine pn_aload_n (q := 5) dX7_areUnlike_4 rfl rfl rfl ?_
      refine pn_get (q := 8) fX7_20 dX7_areUnlike_5 rfl rfl rfl ?_
      refine pn_iconst (q := 9) (v := nI 4) dX7_areUnlike_8 rfl (by decide) ?_
      (first | refine pn_lald1 (q := 10) dX7_areUnlike_9 rfl rfl rfl (by omega) (by first | decide | omega) ?_ | refine pn_lald5 (q := 10) dX7_areUnlike_9 rfl rfl rfl (by omega) (by first | decide | omega) ?_); refine pn_eq (h' := _) (st' := .long (lN Y.2.2.2.2.2.1) :: _) rfl rfl ?_
      refine pn_lge (q1 := 11) (q := 14) (tgt := 74) dX7_areUnlike_10 rfl dX7_areUnlike_11 (by decide) rfl (fun hc10 => ?_) (fun hc10 => ?_)
      · (rw [lN_leI (by omega) (by omega)] at hc10; omega)
      · refine pn_iconst (q := 15) (v := nI 0) dX7_areUnlike_14 rfl (by decide) ?_
        refine pn_istore_n (q := 16) dX7_areUnlike_15 rfl (by decide) ?_
        exact lpI u (by omega) k68 (plN Y.2.2.1 Y.2.2.2.1) 0 (by omega) (fun j' hj' => absurd hj' (Nat.not_lt_zero _))
  refine pn_iconst (q := 1) (v := nI 0) dX7_areUnlike_0 rfl (by decide) ?_
  refine pn_istore_n (q := 2) dX7_areUnlike_1 rfl (by decide) ?_
  exact lpU Y.2.2.2.2.2.1 0 (by omega) (fun j' hj' => absurd hj' (Nat.not_lt_zero _))
