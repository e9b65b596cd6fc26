/-! ===== the reference's answers that change nothing ===== -/
set_option maxRecDepth 100000 in
theorem m_fault (adK : Nat → Nat) (d : Nat) (Y : MN) (P : Nat → MN) (a : G0) (b : G1) (c : G3) (e : G4) (f : G5) (g : G6) (h : G7) : pnCt mX7_fault adK d 0 0 [.ref 0] (hM Y P a b c e f g h) (pnIs (.inl (some (.int a.2.2.2.1))) (hM Y P (0, a.2) b c e f g h)) := by
  refine pnCt_of (by decide) kX7_fault (Nat.le_of_ble_eq_true rfl) rfl hM_cl (pnCS_b rfl) ?_
  refine pn_aload_n (q := 1) dX7_fault_0 rfl rfl rfl ?_
  refine pn_iconst (q := 2) (v := nI 0) dX7_fault_1 rfl (by decide) ?_
  (refine pn_put (q := 5) fX7_63 dX7_fault_2 rfl rfl (Nat.le_of_ble_eq_true rfl) (pnF_int _) ?_)
  refine pn_eq (h' := (hM Y P (0, a.2) b c e f g h)) (st' := _) rfl rfl ?_
  refine pn_aload_n (q := 6) dX7_fault_5 rfl rfl rfl ?_
  refine pn_get (q := 9) fX7_13 dX7_fault_6 rfl rfl rfl ?_
  refine pn_iret dX7_fault_9 rfl ?_
  exact ⟨rfl, rfl⟩
set_option maxRecDepth 100000 in
theorem m_left (adK : Nat → Nat) (d : Nat) (Y : MN) (P : Nat → MN) (a : G0) (b : G1) (c : G3) (e : G4) (f : G5) (g : G6) (h : G7) (hpc : Y.2.2.2.2.1 ≤ 60) : pnCt mX7_left adK (d + 3) 0 0 [.ref 0] (hM Y P a b c e f g h) (pnIs (.inl (some (.long (lfN Y.2.2.2.2.2.2.1 Y.2.1 Y.2.2.2.2.1)))) (hM Y P (0, a.2) b c e f g h)) := by
  refine pnCt_of (by decide) kX7_left (Nat.le_of_ble_eq_true rfl) rfl hM_cl (pnCS_b rfl) ?_
  refine pn_aload_n (q := 1) dX7_left_0 rfl rfl rfl ?_
  refine pn_iconst (q := 2) (v := nI 0) dX7_left_1 rfl (by decide) ?_
  (refine pn_put (q := 5) fX7_63 dX7_left_2 rfl rfl (Nat.le_of_ble_eq_true rfl) (pnF_int _) ?_)
  refine pn_eq (h' := (hM Y P (0, a.2) b c e f g h)) (st' := _) rfl rfl ?_
  refine pn_aload_n (q := 6) dX7_left_5 rfl rfl rfl ?_
  refine pn_idV (q := 9) (bc9 := 0) (bs9 := 0) (m_leftNow adK d Y P (0, a.2) b c e f g h hpc) lkX7_225 dX7_left_6 rfl rfl (hM_cl) (hM_cl) (Nat.le_of_ble_eq_true rfl) rfl rfl rfl rfl rfl rfl (by omega) (by omega) (by omega) (Nat.le_of_ble_eq_true rfl) ?_
  refine pn_lret dX7_left_9 rfl ?_
  exact ⟨rfl, rfl⟩
set_option maxRecDepth 100000 in
theorem m_print (adK : Nat → Nat) (d : Nat) (Y : MN) (P : Nat → MN) (a : G0) (b : G1) (c : G3) (e : G4) (f : G5) (g : G6) (h : G7) (hpc : Y.2.2.2.2.1 ≤ 60) : pnCt mX7_print adK (d + 3) 0 0 [.ref 0] (hM Y P a b c e f g h) (pnIs (.inl (some (.long (prtN Y.2.2.2.2.2.2.1 (lfN Y.2.2.2.2.2.2.1 Y.2.1 Y.2.2.2.2.1) Y.2.2.2.2.1)))) (hM Y P (0, a.2) b c e f g h)) := by
  refine pnCt_of (by decide) kX7_print (Nat.le_of_ble_eq_true rfl) rfl hM_cl (pnCS_b rfl) ?_
  have loop : ∀ (z i : Nat), i + z = Y.2.2.2.2.1 → pnWP mX7_print adK (d + 3) (pnIs (.inl (some (.long (prtN Y.2.2.2.2.2.2.1 (lfN Y.2.2.2.2.2.2.1 Y.2.1 Y.2.2.2.2.1) Y.2.2.2.2.1)))) (hM Y P (0, a.2) b c e f g h)) 0 0 (hM Y P (0, a.2) b c e f g h) [some (.ref 0), some (.long (prtN Y.2.2.2.2.2.2.1 (lfN Y.2.2.2.2.2.2.1 Y.2.1 Y.2.2.2.2.1) i)), none, some (.int (nI i))] [] 12 := by
    intro z
    induction z with
    | zero =>
      intro i hz
      refine pn_iload_n (q := 13) dX7_print_12 rfl rfl ?_
      refine pn_aload_n (q := 14) dX7_print_13 rfl rfl rfl ?_
      refine pn_idV (q := 17) (bc9 := 0) (bs9 := 0) (m_many adK d Y P (0, a.2) b c e f g h) lkX7_232 dX7_print_14 rfl rfl (hM_cl) (hM_cl) (Nat.le_of_ble_eq_true rfl) rfl rfl rfl rfl rfl rfl (by omega) (by omega) (by omega) (Nat.le_of_ble_eq_true rfl) ?_
      first | refine pn_nge (q := 20) (tgt := 42) dX7_print_17 (by decide) rfl (by omega) (by omega) (fun hc17 => ?_) (fun hc17 => ?_) | refine pn_icmp_ge (q := 20) (tgt := 42) dX7_print_17 (by decide) rfl (fun hc17 => ?_) (fun hc17 => ?_)
      · refine pn_lload_n (q := 43) dX7_print_42 rfl rfl ?_
        refine pn_lret dX7_print_43 rfl ?_
        exact ⟨by rw [show i = Y.2.2.2.2.1 by omega], rfl⟩
      · omega
    | succ z ih =>
      intro i hz
      refine pn_iload_n (q := 13) dX7_print_12 rfl rfl ?_
      refine pn_aload_n (q := 14) dX7_print_13 rfl rfl rfl ?_
      refine pn_idV (q := 17) (bc9 := 0) (bs9 := 0) (m_many adK d Y P (0, a.2) b c e f g h) lkX7_232 dX7_print_14 rfl rfl (hM_cl) (hM_cl) (Nat.le_of_ble_eq_true rfl) rfl rfl rfl rfl rfl rfl (by omega) (by omega) (by omega) (Nat.le_of_ble_eq_true rfl) ?_
      first | refine pn_nge (q := 20) (tgt := 42) dX7_print_17 (by decide) rfl (by omega) (by omega) (fun hc17 => ?_) (fun hc17 => ?_) | refine pn_icmp_ge (q := 20) (tgt := 42) dX7_print_17 (by decide) rfl (fun hc17 => ?_) (fun hc17 => ?_)
      · omega
      · refine pn_ldc2 (q := 23) pw_1407 dX7_print_20 rfl ?_; refine pn_eq (h' := _) (st' := .long (lN 31) :: _) rfl rfl ?_
        refine pn_lload_n (q := 24) dX7_print_23 rfl rfl ?_
        first | with_reducible refine pn_lmulN (q := 25) dX7_print_24 rfl ?_ | refine pn_lmul (q := 25) dX7_print_24 rfl ?_
        refine pn_aload_n (q := 26) dX7_print_25 rfl rfl rfl ?_
        refine pn_get (q := 29) fX7_20 dX7_print_26 rfl rfl rfl ?_
        refine pn_bipush (q := 31) (v := nI 30) dX7_print_29 rfl (by decide) ?_
        refine pn_iload_n (q := 32) dX7_print_31 rfl rfl ?_
        first | with_reducible refine pn_iaddN (q := 33) dX7_print_32 rfl ?_ | refine pn_iadd (q := 33) dX7_print_32 rfl ?_
        refine pn_lald1 (q := 34) dX7_print_33 rfl rfl rfl (by omega) (by decide) ?_; rw [nowF_p]
        first | with_reducible refine pn_laddN (q := 35) dX7_print_34 rfl ?_ | refine pn_ladd (q := 35) dX7_print_34 rfl ?_
        refine pn_lstore_n (q := 36) dX7_print_35 rfl (by decide) ?_
        first | refine pn_iinc1 (q := 39) dX7_print_36 rfl rfl (by decide) ?_ | refine pn_iinc (q := 39) (mm := 1) dX7_print_36 rfl rfl (by decide) (by decide) ?_
        refine pn_goto (q := 12) dX7_print_39 (by decide) ?_
        exact ih (i + 1) (by omega)
  refine pn_aload_n (q := 1) dX7_print_0 rfl rfl rfl ?_
  refine pn_iconst (q := 2) (v := nI 0) dX7_print_1 rfl (by decide) ?_
  (refine pn_put (q := 5) fX7_63 dX7_print_2 rfl rfl (Nat.le_of_ble_eq_true rfl) (pnF_int _) ?_)
  refine pn_eq (h' := (hM Y P (0, a.2) b c e f g h)) (st' := _) rfl rfl ?_
  refine pn_aload_n (q := 6) dX7_print_5 rfl rfl rfl ?_
  refine pn_idV (q := 9) (bc9 := 0) (bs9 := 0) (m_leftNow adK d Y P (0, a.2) b c e f g h hpc) lkX7_225 dX7_print_6 rfl rfl (hM_cl) (hM_cl) (Nat.le_of_ble_eq_true rfl) rfl rfl rfl rfl rfl rfl (by omega) (by omega) (by omega) (Nat.le_of_ble_eq_true rfl) ?_
  refine pn_lstore_n (q := 10) dX7_print_9 rfl (by decide) ?_
  refine pn_iconst (q := 11) (v := nI 0) dX7_print_10 rfl (by decide) ?_
  refine pn_istore_n (q := 12) dX7_print_11 rfl (by decide) ?_
  exact loop Y.2.2.2.2.1 0 (by omega)
theorem inL_has {m : Nat} (hm : m ≤ 999) (x : Int32) : inL x.toInt64 (lN 0) (lN m) = hasN (m + 1) x := by
  have := inL_lsub (n := m + 1) (by omega) (by omega) x
  rw [show m + 1 - 1 = m by omega] at this
  exact this
set_option maxRecDepth 100000 in
theorem m_status (adK : Nat → Nat) (d : Nat) (Y : MN) (P : Nat → MN) (a : G0) (b : G1) (c : G3) (e : G4) (f : G5) (g : G6) (h : G7) (x : Int32) : pnCt mX7_status adK (d + 1) 0 0 [.ref 0, .int x] (hM Y P a b c e f g h) (pnIs (.inl (some (.int (if hasN 3 x = true then nI (a.2.1 x.toNatClampNeg) else -1)))) (hM Y P (0, a.2) b c e f g h)) := by
  refine pnCt_of (by decide) kX7_status (Nat.le_of_ble_eq_true rfl) rfl hM_cl (pnCS_b rfl) ?_
  have C0 := m_in adK d x.toInt64 (lN 0) (lN 2)
  rw [inL_has (by omega)] at C0
  rcases hasN_cases x 3 (by omega) with ⟨h1, h0⟩ | ⟨h1, h2, h0⟩ | ⟨j, hj, rfl, h0⟩
  · rw [h0] at C0
    rw [if_neg (by rw [h0]; exact Bool.false_ne_true)]
    refine pn_aload_n (q := 1) dX7_status_0 rfl rfl rfl ?_
    refine pn_iconst (q := 2) (v := nI 0) dX7_status_1 rfl (by decide) ?_
    (refine pn_put (q := 5) fX7_63 dX7_status_2 rfl rfl (Nat.le_of_ble_eq_true rfl) (pnF_int _) ?_)
    refine pn_eq (h' := (hM Y P (0, a.2) b c e f g h)) (st' := _) rfl rfl ?_
    refine pn_iload_n (q := 6) dX7_status_5 rfl rfl ?_
    refine pn_i2l (q := 7) dX7_status_6 rfl ?_
    refine pn_lconst (q := 8) (v := lN 0) dX7_status_7 rfl (by decide) ?_
    refine pn_ldc2 (q := 11) pw_1258 dX7_status_8 rfl ?_; refine pn_eq (h' := _) (st' := .long (lN 2) :: _) rfl rfl ?_
    refine pn_roS1 (q := 14) (C0) lkX7_92 dX7_status_11 rfl rfl (pnSel_of (I := []) rfl rfl) (pnFree_none rfl) rfl (by omega) (Nat.le_of_ble_eq_true rfl) rfl ?_
    refine pn_beq (q := 17) (tgt := 26) dX7_status_14 (by decide) rfl (fun hc14 => ?_) (fun hc14 => ?_)
    · refine pn_iconst (q := 27) (v := (-1)) dX7_status_26 rfl (by decide) ?_
      refine pn_iret dX7_status_27 rfl ?_
      exact ⟨rfl, rfl⟩
    · cases hc14
  · rw [h0] at C0
    rw [if_neg (by rw [h0]; exact Bool.false_ne_true)]
    refine pn_aload_n (q := 1) dX7_status_0 rfl rfl rfl ?_
    refine pn_iconst (q := 2) (v := nI 0) dX7_status_1 rfl (by decide) ?_
    (refine pn_put (q := 5) fX7_63 dX7_status_2 rfl rfl (Nat.le_of_ble_eq_true rfl) (pnF_int _) ?_)
    refine pn_eq (h' := (hM Y P (0, a.2) b c e f g h)) (st' := _) rfl rfl ?_
    refine pn_iload_n (q := 6) dX7_status_5 rfl rfl ?_
    refine pn_i2l (q := 7) dX7_status_6 rfl ?_
    refine pn_lconst (q := 8) (v := lN 0) dX7_status_7 rfl (by decide) ?_
    refine pn_ldc2 (q := 11) pw_1258 dX7_status_8 rfl ?_; refine pn_eq (h' := _) (st' := .long (lN 2) :: _) rfl rfl ?_
    refine pn_roS1 (q := 14) (C0) lkX7_92 dX7_status_11 rfl rfl (pnSel_of (I := []) rfl rfl) (pnFree_none rfl) rfl (by omega) (Nat.le_of_ble_eq_true rfl) rfl ?_
    refine pn_beq (q := 17) (tgt := 26) dX7_status_14 (by decide) rfl (fun hc14 => ?_) (fun hc14 => ?_)
    · refine pn_iconst (q := 27) (v := (-1)) dX7_status_26 rfl (by decide) ?_
      refine pn_iret dX7_status_27 rfl ?_
      exact ⟨rfl, rfl⟩
    · cases hc14
  · rw [h0] at C0
    rw [if_pos h0, nI_clamp (by omega)]
    refine pn_aload_n (q := 1) dX7_status_0 rfl rfl rfl ?_
    refine pn_iconst (q := 2) (v := nI 0) dX7_status_1 rfl (by decide) ?_
    (refine pn_put (q := 5) fX7_63 dX7_status_2 rfl rfl (Nat.le_of_ble_eq_true rfl) (pnF_int _) ?_)
    refine pn_eq (h' := (hM Y P (0, a.2) b c e f g h)) (st' := _) rfl rfl ?_
    refine pn_iload_n (q := 6) dX7_status_5 rfl rfl ?_
    refine pn_i2l (q := 7) dX7_status_6 rfl ?_
    refine pn_lconst (q := 8) (v := lN 0) dX7_status_7 rfl (by decide) ?_
    refine pn_ldc2 (q := 11) pw_1258 dX7_status_8 rfl ?_; refine pn_eq (h' := _) (st' := .long (lN 2) :: _) rfl rfl ?_
    refine pn_roS1 (q := 14) (C0) lkX7_92 dX7_status_11 rfl rfl (pnSel_of (I := []) rfl rfl) (pnFree_none rfl) rfl (by omega) (Nat.le_of_ble_eq_true rfl) rfl ?_
    refine pn_beq (q := 17) (tgt := 26) dX7_status_14 (by decide) rfl (fun hc14 => ?_) (fun hc14 => ?_)
    · cases hc14
    · refine pn_aload_n (q := 18) dX7_status_17 rfl rfl rfl ?_
      refine pn_get (q := 21) fX7_9 dX7_status_18 rfl rfl rfl ?_
      refine pn_iload_n (q := 22) dX7_status_21 rfl rfl ?_
      refine pn_iald (q := 23) dX7_status_22 rfl rfl rfl (by omega) (by first | decide | omega) ?_
      refine pn_goto (q := 27) dX7_status_23 (by decide) ?_
      refine pn_iret dX7_status_27 rfl ?_
      exact ⟨rfl, rfl⟩
/-! lines at a node -/
def laM (x : Int64) (n a : Nat) : Nat → Nat
  | 0 => 0
  | b + 1 => if b = a then laM x n a b else laM x n a b + (btL x (lnN n a b)).toNat
theorem laM_le (x : Int64) (n a : Nat) : ∀ b, laM x n a b ≤ b
  | 0 => Nat.le_refl _
  | b + 1 => by
    have := laM_le x n a b
    have h9 : (btL x (lnN n a b)).toNat ≤ 1 := Bool.toNat_le _
    unfold laM; split <;> omega
theorem ln_lt : ∀ n, n ≤ 11 → ∀ a, a < n → ∀ b, b < n → a ≠ b → lnN n a b < n * (n - 1) / 2 := by decide +kernel
theorem ln_55 {n a b : Nat} (hn : n ≤ 11) (ha : a < n) (hb : b < n) (hab : a ≠ b) : lnN n a b < 55 := by
  have h := ln_lt n hn a ha b hb hab
  have : n * (n - 1) ≤ 11 * 10 := Nat.mul_le_mul (by omega) (by omega)
  omega
set_option maxRecDepth 100000 in
theorem m_linesAt (adK : Nat → Nat) (d : Nat) (Y : MN) (P : Nat → MN) (a : G0) (b : G1) (c : G3) (e : G4) (f : G5) (g : G6) (h : G7) (x : Int64) (i : Nat) (hn : Y.1 ≤ 11) (hi : i < Y.1) : pnCt mX7_linesAt adK (d + 2) 0 0 [.ref 0, .long x, .int (nI i)] (hM Y P a b c e f g h) (pnIs (.inl (some (.int (nI (laM x Y.1 i Y.1))))) (hM Y P a b c e f g h)) := by
  refine pnCt_of (by decide) kX7_linesAt (Nat.le_of_ble_eq_true rfl) rfl hM_cl (pnCS_b rfl) ?_
  have loop : ∀ (z j : Nat), j + z = Y.1 → pnWP mX7_linesAt adK (d + 2) (pnIs (.inl (some (.int (nI (laM x Y.1 i Y.1))))) (hM Y P a b c e f g h)) 0 0 (hM Y P a b c e f g h) [some (.ref 0), some (.long x), none, some (.int (nI i)), some (.int (nI (laM x Y.1 i j))), some (.int (nI j))] [] 6 := by
    intro z
    induction z with
    | zero =>
      intro j hz
      refine pn_iload (q := 8) dX7_linesAt_6 rfl rfl ?_
      first | with_reducible refine pn_i2lN (q := 9) dX7_linesAt_8 rfl (by omega) ?_ | refine pn_i2l (q := 9) dX7_linesAt_8 rfl ?_
      refine pn_aload_n (q := 10) dX7_linesAt_9 rfl rfl rfl ?_
      refine pn_get (q := 13) fX7_20 dX7_linesAt_10 rfl rfl rfl ?_
      refine pn_iconst (q := 14) (v := nI 0) dX7_linesAt_13 rfl (by decide) ?_
      (first | refine pn_lald1 (q := 15) dX7_linesAt_14 rfl rfl rfl (by omega) (by first | decide | omega) ?_ | refine pn_lald5 (q := 15) dX7_linesAt_14 rfl rfl rfl (by omega) (by first | decide | omega) ?_); refine pn_eq (h' := _) (st' := .long (lN Y.1) :: _) rfl rfl ?_
      refine pn_lge (q1 := 16) (q := 19) (tgt := 55) dX7_linesAt_15 rfl dX7_linesAt_16 (by decide) rfl (fun hc15 => ?_) (fun hc15 => ?_)
      · refine pn_iload (q := 57) dX7_linesAt_55 rfl rfl ?_
        refine pn_iret dX7_linesAt_57 rfl ?_
        exact ⟨by rw [show j = Y.1 by omega], rfl⟩
      · exact (hc15 ((lN_leI (by omega) (by omega)).mpr (by omega))).elim
    | succ z ih =>
      intro j hz
      have k9 := ih (j + 1) (by omega)
      have e2 : laM x Y.1 i (j + 1) = if j = i then laM x Y.1 i j else laM x Y.1 i j + (btL x (lnN Y.1 i j)).toNat := rfl
      rw [e2] at k9
      have hle := laM_le x Y.1 i j
      by_cases hji : j = i
      · rw [if_pos hji] at k9
        refine pn_iload (q := 8) dX7_linesAt_6 rfl rfl ?_
        first | with_reducible refine pn_i2lN (q := 9) dX7_linesAt_8 rfl (by omega) ?_ | refine pn_i2l (q := 9) dX7_linesAt_8 rfl ?_
        refine pn_aload_n (q := 10) dX7_linesAt_9 rfl rfl rfl ?_
        refine pn_get (q := 13) fX7_20 dX7_linesAt_10 rfl rfl rfl ?_
        refine pn_iconst (q := 14) (v := nI 0) dX7_linesAt_13 rfl (by decide) ?_
        (first | refine pn_lald1 (q := 15) dX7_linesAt_14 rfl rfl rfl (by omega) (by first | decide | omega) ?_ | refine pn_lald5 (q := 15) dX7_linesAt_14 rfl rfl rfl (by omega) (by first | decide | omega) ?_); refine pn_eq (h' := _) (st' := .long (lN Y.1) :: _) rfl rfl ?_
        refine pn_lge (q1 := 16) (q := 19) (tgt := 55) dX7_linesAt_15 rfl dX7_linesAt_16 (by decide) rfl (fun hc15 => ?_) (fun hc15 => ?_)
        · (rw [lN_leI (by omega) (by omega)] at hc15; omega)
        · refine pn_iload (q := 21) dX7_linesAt_19 rfl rfl ?_
          refine pn_iload_n (q := 22) dX7_linesAt_21 rfl rfl ?_
          first | refine pn_neq (q := 25) (tgt := 49) dX7_linesAt_22 (by decide) rfl (by omega) (by omega) (fun hc22 => ?_) (fun hc22 => ?_) | refine pn_icmp_eq (q := 25) (tgt := 49) dX7_linesAt_22 (by decide) rfl (fun hc22 => ?_) (fun hc22 => ?_)
          · first | refine pn_iinc1 (q := 52) dX7_linesAt_49 rfl rfl (by decide) ?_ | refine pn_iinc (q := 52) (mm := 1) dX7_linesAt_49 rfl rfl (by decide) (by decide) ?_
            refine pn_goto (q := 6) dX7_linesAt_52 (by decide) ?_
            exact k9
          · omega
      · rw [if_neg hji] at k9
        have hl := ln_55 hn hi (show j < Y.1 by omega) (fun q => hji q.symm)
        refine pn_iload (q := 8) dX7_linesAt_6 rfl rfl ?_
        first | with_reducible refine pn_i2lN (q := 9) dX7_linesAt_8 rfl (by omega) ?_ | refine pn_i2l (q := 9) dX7_linesAt_8 rfl ?_
        refine pn_aload_n (q := 10) dX7_linesAt_9 rfl rfl rfl ?_
        refine pn_get (q := 13) fX7_20 dX7_linesAt_10 rfl rfl rfl ?_
        refine pn_iconst (q := 14) (v := nI 0) dX7_linesAt_13 rfl (by decide) ?_
        (first | refine pn_lald1 (q := 15) dX7_linesAt_14 rfl rfl rfl (by omega) (by first | decide | omega) ?_ | refine pn_lald5 (q := 15) dX7_linesAt_14 rfl rfl rfl (by omega) (by first | decide | omega) ?_); refine pn_eq (h' := _) (st' := .long (lN Y.1) :: _) rfl rfl ?_
        refine pn_lge (q1 := 16) (q := 19) (tgt := 55) dX7_linesAt_15 rfl dX7_linesAt_16 (by decide) rfl (fun hc15 => ?_) (fun hc15 => ?_)
        · (rw [lN_leI (by omega) (by omega)] at hc15; omega)
        · refine pn_iload (q := 21) dX7_linesAt_19 rfl rfl ?_
          refine pn_iload_n (q := 22) dX7_linesAt_21 rfl rfl ?_
          first | refine pn_neq (q := 25) (tgt := 49) dX7_linesAt_22 (by decide) rfl (by omega) (by omega) (fun hc22 => ?_) (fun hc22 => ?_) | refine pn_icmp_eq (q := 25) (tgt := 49) dX7_linesAt_22 (by decide) rfl (fun hc22 => ?_) (fun hc22 => ?_)
          · omega
          · refine pn_iload (q := 27) dX7_linesAt_25 rfl rfl ?_
            first | with_reducible refine pn_i2lN (q := 28) dX7_linesAt_27 rfl (by omega) ?_ | refine pn_i2l (q := 28) dX7_linesAt_27 rfl ?_
            refine pn_lload_n (q := 29) dX7_linesAt_28 rfl rfl ?_
            refine pn_aload_n (q := 30) dX7_linesAt_29 rfl rfl rfl ?_
            refine pn_get (q := 33) fX7_20 dX7_linesAt_30 rfl rfl rfl ?_
            refine pn_iconst (q := 34) (v := nI 0) dX7_linesAt_33 rfl (by decide) ?_
            (first | refine pn_lald1 (q := 35) dX7_linesAt_34 rfl rfl rfl (by omega) (by first | decide | omega) ?_ | refine pn_lald5 (q := 35) dX7_linesAt_34 rfl rfl rfl (by omega) (by first | decide | omega) ?_); refine pn_eq (h' := _) (st' := .long (lN Y.1) :: _) rfl rfl ?_
            first | with_reducible refine pn_l2iN (q := 36) dX7_linesAt_35 rfl ?_ | refine pn_l2i (q := 36) dX7_linesAt_35 rfl ?_
            refine pn_iload_n (q := 37) dX7_linesAt_36 rfl rfl ?_
            refine pn_iload (q := 39) dX7_linesAt_37 rfl rfl ?_
            refine pn_roS1 (q := 42) (m_lineOf adK d Y.1 i j hn hi (by omega) (fun q => hji q.symm)) lkX7_96 dX7_linesAt_39 rfl rfl (pnSel_of (I := []) rfl rfl) (pnFree_none rfl) rfl (by omega) (Nat.le_of_ble_eq_true rfl) rfl ?_
            refine pn_lshr (q := 43) dX7_linesAt_42 rfl ?_
            refine pn_lconst (q := 44) (v := lN 1) dX7_linesAt_43 rfl (by decide) ?_
            refine pn_land (q := 45) dX7_linesAt_44 rfl ?_; rw [show (x >>> ((nI (lnN Y.1 i j)).toInt64 &&& 63)) &&& lN 1 = lN (btL x (lnN Y.1 i j)).toNat from biL_eq x (by omega)]
            first | with_reducible refine pn_laddN (q := 46) dX7_linesAt_45 rfl ?_ | refine pn_ladd (q := 46) dX7_linesAt_45 rfl ?_
            first | with_reducible refine pn_l2iN (q := 47) dX7_linesAt_46 rfl ?_ | refine pn_l2i (q := 47) dX7_linesAt_46 rfl ?_
            refine pn_istore (q := 49) dX7_linesAt_47 rfl (by decide) ?_
            first | refine pn_iinc1 (q := 52) dX7_linesAt_49 rfl rfl (by decide) ?_ | refine pn_iinc (q := 52) (mm := 1) dX7_linesAt_49 rfl rfl (by decide) (by decide) ?_
            refine pn_goto (q := 6) dX7_linesAt_52 (by decide) ?_
            exact pn_take 6 k9
  refine pn_iconst (q := 1) (v := nI 0) dX7_linesAt_0 rfl (by decide) ?_
  refine pn_istore (q := 3) dX7_linesAt_1 rfl (by decide) ?_
  refine pn_iconst (q := 4) (v := nI 0) dX7_linesAt_3 rfl (by decide) ?_
  refine pn_istore (q := 6) dX7_linesAt_4 rfl (by decide) ?_
  exact loop Y.1 0 (by omega)
/-! told -/
set_option maxRecDepth 100000 in
theorem m_told0 (adK : Nat → Nat) (d : Nat) (Y : MN) (P : Nat → MN) (a : G0) (b : G1) (c : G3) (e : G4) (f : G5) (g : G6) (h : G7) (hpc : Y.2.2.2.2.1 ≤ 60) : pnCt mX7_told adK (d + 3) 0 0 [.ref 0, .int (nI 0)] (hM Y P a b c e f g h) (pnIs (.inl (some (.int (nI Y.1)))) (hM Y P (0, a.2) b c e f g h)) := by
  refine pnCt_of (by decide) kX7_told (Nat.le_of_ble_eq_true rfl) rfl hM_cl (pnCS_b rfl) ?_
  have C0 := m_in adK d (nI 0).toInt64 (lN 0) (lN 8)
  rw [inL_has (by omega), hasN_in (by omega) (by omega)] at C0
  refine pn_aload_n (q := 1) dX7_told_0 rfl rfl rfl ?_
  refine pn_iconst (q := 2) (v := nI 0) dX7_told_1 rfl (by decide) ?_
  (refine pn_put (q := 5) fX7_63 dX7_told_2 rfl rfl (Nat.le_of_ble_eq_true rfl) (pnF_int _) ?_)
  refine pn_eq (h' := (hM Y P (0, a.2) b c e f g h)) (st' := _) rfl rfl ?_
  refine pn_aload_n (q := 6) dX7_told_5 rfl rfl rfl ?_
  refine pn_iload_n (q := 7) dX7_told_6 rfl rfl ?_
  refine pn_i2l (q := 8) dX7_told_7 rfl ?_
  refine pn_lconst (q := 9) (v := lN 0) dX7_told_8 rfl (by decide) ?_
  refine pn_ldc2 (q := 12) pw_1443 dX7_told_9 rfl ?_; refine pn_eq (h' := _) (st' := .long (lN 8) :: _) rfl rfl ?_
  refine pn_roS1 (q := 15) (C0) lkX7_92 dX7_told_12 rfl rfl (pnSel_of (I := []) rfl rfl) (pnFree_none rfl) rfl (by omega) (Nat.le_of_ble_eq_true rfl) rfl ?_
  refine pn_bne (q := 18) (tgt := 22) dX7_told_15 (by decide) rfl (fun hc15 => ?_) (fun hc15 => ?_)
  · refine pn_iconst (q := 23) (v := nB false) dX7_told_22 rfl (by decide) ?_
    refine pn_iconst (q := 24) (v := nI 1) dX7_told_23 rfl (by decide) ?_
    refine pn_iconst (q := 25) (v := nI 1) dX7_told_24 rfl (by decide) ?_
    refine pn_idV (q := 28) (bc9 := 0) (bs9 := 0) (m_badF adK d Y P (0, a.2) b c e f g h 1 1 rfl) lkX7_206 dX7_told_25 rfl rfl (hM_cl) (hM_cl) (Nat.le_of_ble_eq_true rfl) rfl rfl rfl rfl rfl rfl (by omega) (by omega) (by omega) (Nat.le_of_ble_eq_true rfl) ?_
    refine pn_beq (q := 31) (tgt := 33) dX7_told_28 (by decide) rfl (fun hc28 => ?_) (fun hc28 => ?_)
    · refine pn_iload_n (q := 34) dX7_told_33 rfl rfl ?_
      refine pn_tabIn (q := 80) (off := 46) dX7_told_34 (by decide) (by decide) (by decide) (by decide) ?_
      refine pn_aload_n (q := 81) dX7_told_80 rfl rfl rfl ?_
      refine pn_get (q := 84) fX7_20 dX7_told_81 rfl rfl rfl ?_
      refine pn_iconst (q := 85) (v := nI 0) dX7_told_84 rfl (by decide) ?_
      (first | refine pn_lald1 (q := 86) dX7_told_85 rfl rfl rfl (by omega) (by first | decide | omega) ?_ | refine pn_lald5 (q := 86) dX7_told_85 rfl rfl rfl (by omega) (by first | decide | omega) ?_); refine pn_eq (h' := _) (st' := .long (lN Y.1) :: _) rfl rfl ?_
      first | with_reducible refine pn_l2iN (q := 87) dX7_told_86 rfl ?_ | refine pn_l2i (q := 87) dX7_told_86 rfl ?_
      refine pn_iret dX7_told_87 rfl ?_
      exact ⟨rfl, rfl⟩
    · cases hc28
  · cases hc15
set_option maxRecDepth 100000 in
theorem m_told1 (adK : Nat → Nat) (d : Nat) (Y : MN) (P : Nat → MN) (a : G0) (b : G1) (c : G3) (e : G4) (f : G5) (g : G6) (h : G7) (hpc : Y.2.2.2.2.1 ≤ 60) : pnCt mX7_told adK (d + 3) 0 0 [.ref 0, .int (nI 1)] (hM Y P a b c e f g h) (pnIs (.inl (some (.int (onN Y.2.1 55)))) (hM Y P (0, a.2) b c e f g h)) := by
  refine pnCt_of (by decide) kX7_told (Nat.le_of_ble_eq_true rfl) rfl hM_cl (pnCS_b rfl) ?_
  have C0 := m_in adK d (nI 1).toInt64 (lN 0) (lN 8)
  rw [inL_has (by omega), hasN_in (by omega) (by omega)] at C0
  refine pn_aload_n (q := 1) dX7_told_0 rfl rfl rfl ?_
  refine pn_iconst (q := 2) (v := nI 0) dX7_told_1 rfl (by decide) ?_
  (refine pn_put (q := 5) fX7_63 dX7_told_2 rfl rfl (Nat.le_of_ble_eq_true rfl) (pnF_int _) ?_)
  refine pn_eq (h' := (hM Y P (0, a.2) b c e f g h)) (st' := _) rfl rfl ?_
  refine pn_aload_n (q := 6) dX7_told_5 rfl rfl rfl ?_
  refine pn_iload_n (q := 7) dX7_told_6 rfl rfl ?_
  refine pn_i2l (q := 8) dX7_told_7 rfl ?_
  refine pn_lconst (q := 9) (v := lN 0) dX7_told_8 rfl (by decide) ?_
  refine pn_ldc2 (q := 12) pw_1443 dX7_told_9 rfl ?_; refine pn_eq (h' := _) (st' := .long (lN 8) :: _) rfl rfl ?_
  refine pn_roS1 (q := 15) (C0) lkX7_92 dX7_told_12 rfl rfl (pnSel_of (I := []) rfl rfl) (pnFree_none rfl) rfl (by omega) (Nat.le_of_ble_eq_true rfl) rfl ?_
  refine pn_bne (q := 18) (tgt := 22) dX7_told_15 (by decide) rfl (fun hc15 => ?_) (fun hc15 => ?_)
  · refine pn_iconst (q := 23) (v := nB false) dX7_told_22 rfl (by decide) ?_
    refine pn_iconst (q := 24) (v := nI 1) dX7_told_23 rfl (by decide) ?_
    refine pn_iconst (q := 25) (v := nI 1) dX7_told_24 rfl (by decide) ?_
    refine pn_idV (q := 28) (bc9 := 0) (bs9 := 0) (m_badF adK d Y P (0, a.2) b c e f g h 1 1 rfl) lkX7_206 dX7_told_25 rfl rfl (hM_cl) (hM_cl) (Nat.le_of_ble_eq_true rfl) rfl rfl rfl rfl rfl rfl (by omega) (by omega) (by omega) (Nat.le_of_ble_eq_true rfl) ?_
    refine pn_beq (q := 31) (tgt := 33) dX7_told_28 (by decide) rfl (fun hc28 => ?_) (fun hc28 => ?_)
    · refine pn_iload_n (q := 34) dX7_told_33 rfl rfl ?_
      refine pn_tabIn (q := 88) (off := 54) dX7_told_34 (by decide) (by decide) (by decide) (by decide) ?_
      refine pn_aload_n (q := 89) dX7_told_88 rfl rfl rfl ?_
      refine pn_get (q := 92) fX7_20 dX7_told_89 rfl rfl rfl ?_
      refine pn_bipush (q := 94) (v := nI 29) dX7_told_92 rfl (by decide) ?_
      (first | refine pn_lald1 (q := 95) dX7_told_94 rfl rfl rfl (by omega) (by first | decide | omega) ?_ | refine pn_lald5 (q := 95) dX7_told_94 rfl rfl rfl (by omega) (by first | decide | omega) ?_); refine pn_eq (h' := _) (st' := .long (Y.2.1) :: _) rfl rfl ?_
      refine pn_roS1 (q := 98) (m_ones adK d Y.2.1) lkX7_229 dX7_told_95 rfl rfl (pnSel_of (I := []) rfl rfl) (pnFree_none rfl) rfl (by omega) (Nat.le_of_ble_eq_true rfl) rfl ?_
      refine pn_iret dX7_told_98 rfl ?_
      exact ⟨rfl, rfl⟩
    · cases hc28
  · cases hc15
set_option maxRecDepth 100000 in
theorem m_told2 (adK : Nat → Nat) (d : Nat) (Y : MN) (P : Nat → MN) (a : G0) (b : G1) (c : G3) (e : G4) (f : G5) (g : G6) (h : G7) (hpc : Y.2.2.2.2.1 ≤ 60) : pnCt mX7_told adK (d + 3) 0 0 [.ref 0, .int (nI 2)] (hM Y P a b c e f g h) (pnIs (.inl (some (.int (nI Y.2.2.1)))) (hM Y P (0, a.2) b c e f g h)) := by
  refine pnCt_of (by decide) kX7_told (Nat.le_of_ble_eq_true rfl) rfl hM_cl (pnCS_b rfl) ?_
  have C0 := m_in adK d (nI 2).toInt64 (lN 0) (lN 8)
  rw [inL_has (by omega), hasN_in (by omega) (by omega)] at C0
  refine pn_aload_n (q := 1) dX7_told_0 rfl rfl rfl ?_
  refine pn_iconst (q := 2) (v := nI 0) dX7_told_1 rfl (by decide) ?_
  (refine pn_put (q := 5) fX7_63 dX7_told_2 rfl rfl (Nat.le_of_ble_eq_true rfl) (pnF_int _) ?_)
  refine pn_eq (h' := (hM Y P (0, a.2) b c e f g h)) (st' := _) rfl rfl ?_
  refine pn_aload_n (q := 6) dX7_told_5 rfl rfl rfl ?_
  refine pn_iload_n (q := 7) dX7_told_6 rfl rfl ?_
  refine pn_i2l (q := 8) dX7_told_7 rfl ?_
  refine pn_lconst (q := 9) (v := lN 0) dX7_told_8 rfl (by decide) ?_
  refine pn_ldc2 (q := 12) pw_1443 dX7_told_9 rfl ?_; refine pn_eq (h' := _) (st' := .long (lN 8) :: _) rfl rfl ?_
  refine pn_roS1 (q := 15) (C0) lkX7_92 dX7_told_12 rfl rfl (pnSel_of (I := []) rfl rfl) (pnFree_none rfl) rfl (by omega) (Nat.le_of_ble_eq_true rfl) rfl ?_
  refine pn_bne (q := 18) (tgt := 22) dX7_told_15 (by decide) rfl (fun hc15 => ?_) (fun hc15 => ?_)
  · refine pn_iconst (q := 23) (v := nB false) dX7_told_22 rfl (by decide) ?_
    refine pn_iconst (q := 24) (v := nI 1) dX7_told_23 rfl (by decide) ?_
    refine pn_iconst (q := 25) (v := nI 1) dX7_told_24 rfl (by decide) ?_
    refine pn_idV (q := 28) (bc9 := 0) (bs9 := 0) (m_badF adK d Y P (0, a.2) b c e f g h 1 1 rfl) lkX7_206 dX7_told_25 rfl rfl (hM_cl) (hM_cl) (Nat.le_of_ble_eq_true rfl) rfl rfl rfl rfl rfl rfl (by omega) (by omega) (by omega) (Nat.le_of_ble_eq_true rfl) ?_
    refine pn_beq (q := 31) (tgt := 33) dX7_told_28 (by decide) rfl (fun hc28 => ?_) (fun hc28 => ?_)
    · refine pn_iload_n (q := 34) dX7_told_33 rfl rfl ?_
      refine pn_tabIn (q := 99) (off := 65) dX7_told_34 (by decide) (by decide) (by decide) (by decide) ?_
      refine pn_aload_n (q := 100) dX7_told_99 rfl rfl rfl ?_
      refine pn_get (q := 103) fX7_20 dX7_told_100 rfl rfl rfl ?_
      refine pn_iconst (q := 104) (v := nI 1) dX7_told_103 rfl (by decide) ?_
      (first | refine pn_lald1 (q := 105) dX7_told_104 rfl rfl rfl (by omega) (by first | decide | omega) ?_ | refine pn_lald5 (q := 105) dX7_told_104 rfl rfl rfl (by omega) (by first | decide | omega) ?_); refine pn_eq (h' := _) (st' := .long (lN Y.2.2.1) :: _) rfl rfl ?_
      first | with_reducible refine pn_l2iN (q := 106) dX7_told_105 rfl ?_ | refine pn_l2i (q := 106) dX7_told_105 rfl ?_
      refine pn_iret dX7_told_106 rfl ?_
      exact ⟨rfl, rfl⟩
    · cases hc28
  · cases hc15
set_option maxRecDepth 100000 in
theorem m_told3 (adK : Nat → Nat) (d : Nat) (Y : MN) (P : Nat → MN) (a : G0) (b : G1) (c : G3) (e : G4) (f : G5) (g : G6) (h : G7) (hpc : Y.2.2.2.2.1 ≤ 60) : pnCt mX7_told adK (d + 3) 0 0 [.ref 0, .int (nI 3)] (hM Y P a b c e f g h) (pnIs (.inl (some (.int (nI Y.2.2.2.1)))) (hM Y P (0, a.2) b c e f g h)) := by
  refine pnCt_of (by decide) kX7_told (Nat.le_of_ble_eq_true rfl) rfl hM_cl (pnCS_b rfl) ?_
  have C0 := m_in adK d (nI 3).toInt64 (lN 0) (lN 8)
  rw [inL_has (by omega), hasN_in (by omega) (by omega)] at C0
  refine pn_aload_n (q := 1) dX7_told_0 rfl rfl rfl ?_
  refine pn_iconst (q := 2) (v := nI 0) dX7_told_1 rfl (by decide) ?_
  (refine pn_put (q := 5) fX7_63 dX7_told_2 rfl rfl (Nat.le_of_ble_eq_true rfl) (pnF_int _) ?_)
  refine pn_eq (h' := (hM Y P (0, a.2) b c e f g h)) (st' := _) rfl rfl ?_
  refine pn_aload_n (q := 6) dX7_told_5 rfl rfl rfl ?_
  refine pn_iload_n (q := 7) dX7_told_6 rfl rfl ?_
  refine pn_i2l (q := 8) dX7_told_7 rfl ?_
  refine pn_lconst (q := 9) (v := lN 0) dX7_told_8 rfl (by decide) ?_
  refine pn_ldc2 (q := 12) pw_1443 dX7_told_9 rfl ?_; refine pn_eq (h' := _) (st' := .long (lN 8) :: _) rfl rfl ?_
  refine pn_roS1 (q := 15) (C0) lkX7_92 dX7_told_12 rfl rfl (pnSel_of (I := []) rfl rfl) (pnFree_none rfl) rfl (by omega) (Nat.le_of_ble_eq_true rfl) rfl ?_
  refine pn_bne (q := 18) (tgt := 22) dX7_told_15 (by decide) rfl (fun hc15 => ?_) (fun hc15 => ?_)
  · refine pn_iconst (q := 23) (v := nB false) dX7_told_22 rfl (by decide) ?_
    refine pn_iconst (q := 24) (v := nI 1) dX7_told_23 rfl (by decide) ?_
    refine pn_iconst (q := 25) (v := nI 1) dX7_told_24 rfl (by decide) ?_
    refine pn_idV (q := 28) (bc9 := 0) (bs9 := 0) (m_badF adK d Y P (0, a.2) b c e f g h 1 1 rfl) lkX7_206 dX7_told_25 rfl rfl (hM_cl) (hM_cl) (Nat.le_of_ble_eq_true rfl) rfl rfl rfl rfl rfl rfl (by omega) (by omega) (by omega) (Nat.le_of_ble_eq_true rfl) ?_
    refine pn_beq (q := 31) (tgt := 33) dX7_told_28 (by decide) rfl (fun hc28 => ?_) (fun hc28 => ?_)
    · refine pn_iload_n (q := 34) dX7_told_33 rfl rfl ?_
      refine pn_tabIn (q := 107) (off := 73) dX7_told_34 (by decide) (by decide) (by decide) (by decide) ?_
      refine pn_aload_n (q := 108) dX7_told_107 rfl rfl rfl ?_
      refine pn_get (q := 111) fX7_20 dX7_told_108 rfl rfl rfl ?_
      refine pn_iconst (q := 112) (v := nI 2) dX7_told_111 rfl (by decide) ?_
      (first | refine pn_lald1 (q := 113) dX7_told_112 rfl rfl rfl (by omega) (by first | decide | omega) ?_ | refine pn_lald5 (q := 113) dX7_told_112 rfl rfl rfl (by omega) (by first | decide | omega) ?_); refine pn_eq (h' := _) (st' := .long (lN Y.2.2.2.1) :: _) rfl rfl ?_
      first | with_reducible refine pn_l2iN (q := 114) dX7_told_113 rfl ?_ | refine pn_l2i (q := 114) dX7_told_113 rfl ?_
      refine pn_iret dX7_told_114 rfl ?_
      exact ⟨rfl, rfl⟩
    · cases hc28
  · cases hc15
set_option maxRecDepth 100000 in
theorem m_told4 (adK : Nat → Nat) (d : Nat) (Y : MN) (P : Nat → MN) (a : G0) (b : G1) (c : G3) (e : G4) (f : G5) (g : G6) (h : G7) (hpc : Y.2.2.2.2.1 ≤ 60) : pnCt mX7_told adK (d + 3) 0 0 [.ref 0, .int (nI 4)] (hM Y P a b c e f g h) (pnIs (.inl (some (.int (nI Y.2.2.2.2.1)))) (hM Y P (0, a.2) b c e f g h)) := by
  refine pnCt_of (by decide) kX7_told (Nat.le_of_ble_eq_true rfl) rfl hM_cl (pnCS_b rfl) ?_
  have C0 := m_in adK d (nI 4).toInt64 (lN 0) (lN 8)
  rw [inL_has (by omega), hasN_in (by omega) (by omega)] at C0
  refine pn_aload_n (q := 1) dX7_told_0 rfl rfl rfl ?_
  refine pn_iconst (q := 2) (v := nI 0) dX7_told_1 rfl (by decide) ?_
  (refine pn_put (q := 5) fX7_63 dX7_told_2 rfl rfl (Nat.le_of_ble_eq_true rfl) (pnF_int _) ?_)
  refine pn_eq (h' := (hM Y P (0, a.2) b c e f g h)) (st' := _) rfl rfl ?_
  refine pn_aload_n (q := 6) dX7_told_5 rfl rfl rfl ?_
  refine pn_iload_n (q := 7) dX7_told_6 rfl rfl ?_
  refine pn_i2l (q := 8) dX7_told_7 rfl ?_
  refine pn_lconst (q := 9) (v := lN 0) dX7_told_8 rfl (by decide) ?_
  refine pn_ldc2 (q := 12) pw_1443 dX7_told_9 rfl ?_; refine pn_eq (h' := _) (st' := .long (lN 8) :: _) rfl rfl ?_
  refine pn_roS1 (q := 15) (C0) lkX7_92 dX7_told_12 rfl rfl (pnSel_of (I := []) rfl rfl) (pnFree_none rfl) rfl (by omega) (Nat.le_of_ble_eq_true rfl) rfl ?_
  refine pn_bne (q := 18) (tgt := 22) dX7_told_15 (by decide) rfl (fun hc15 => ?_) (fun hc15 => ?_)
  · refine pn_iconst (q := 23) (v := nB false) dX7_told_22 rfl (by decide) ?_
    refine pn_iconst (q := 24) (v := nI 1) dX7_told_23 rfl (by decide) ?_
    refine pn_iconst (q := 25) (v := nI 1) dX7_told_24 rfl (by decide) ?_
    refine pn_idV (q := 28) (bc9 := 0) (bs9 := 0) (m_badF adK d Y P (0, a.2) b c e f g h 1 1 rfl) lkX7_206 dX7_told_25 rfl rfl (hM_cl) (hM_cl) (Nat.le_of_ble_eq_true rfl) rfl rfl rfl rfl rfl rfl (by omega) (by omega) (by omega) (Nat.le_of_ble_eq_true rfl) ?_
    refine pn_beq (q := 31) (tgt := 33) dX7_told_28 (by decide) rfl (fun hc28 => ?_) (fun hc28 => ?_)
    · refine pn_iload_n (q := 34) dX7_told_33 rfl rfl ?_
      refine pn_tabIn (q := 115) (off := 81) dX7_told_34 (by decide) (by decide) (by decide) (by decide) ?_
      refine pn_aload_n (q := 116) dX7_told_115 rfl rfl rfl ?_
      refine pn_idV (q := 119) (bc9 := 0) (bs9 := 0) (m_many adK d Y P (0, a.2) b c e f g h) lkX7_232 dX7_told_116 rfl rfl (hM_cl) (hM_cl) (Nat.le_of_ble_eq_true rfl) rfl rfl rfl rfl rfl rfl (by omega) (by omega) (by omega) (Nat.le_of_ble_eq_true rfl) ?_
      refine pn_iret dX7_told_119 rfl ?_
      exact ⟨rfl, rfl⟩
    · cases hc28
  · cases hc15
set_option maxRecDepth 100000 in
theorem m_told5 (adK : Nat → Nat) (d : Nat) (Y : MN) (P : Nat → MN) (a : G0) (b : G1) (c : G3) (e : G4) (f : G5) (g : G6) (h : G7) (hpc : Y.2.2.2.2.1 ≤ 60) : pnCt mX7_told adK (d + 3) 0 0 [.ref 0, .int (nI 5)] (hM Y P a b c e f g h) (pnIs (.inl (some (.int (onN (lfN Y.2.2.2.2.2.2.1 Y.2.1 Y.2.2.2.2.1) 55)))) (hM Y P (0, a.2) b c e f g h)) := by
  refine pnCt_of (by decide) kX7_told (Nat.le_of_ble_eq_true rfl) rfl hM_cl (pnCS_b rfl) ?_
  have C0 := m_in adK d (nI 5).toInt64 (lN 0) (lN 8)
  rw [inL_has (by omega), hasN_in (by omega) (by omega)] at C0
  refine pn_aload_n (q := 1) dX7_told_0 rfl rfl rfl ?_
  refine pn_iconst (q := 2) (v := nI 0) dX7_told_1 rfl (by decide) ?_
  (refine pn_put (q := 5) fX7_63 dX7_told_2 rfl rfl (Nat.le_of_ble_eq_true rfl) (pnF_int _) ?_)
  refine pn_eq (h' := (hM Y P (0, a.2) b c e f g h)) (st' := _) rfl rfl ?_
  refine pn_aload_n (q := 6) dX7_told_5 rfl rfl rfl ?_
  refine pn_iload_n (q := 7) dX7_told_6 rfl rfl ?_
  refine pn_i2l (q := 8) dX7_told_7 rfl ?_
  refine pn_lconst (q := 9) (v := lN 0) dX7_told_8 rfl (by decide) ?_
  refine pn_ldc2 (q := 12) pw_1443 dX7_told_9 rfl ?_; refine pn_eq (h' := _) (st' := .long (lN 8) :: _) rfl rfl ?_
  refine pn_roS1 (q := 15) (C0) lkX7_92 dX7_told_12 rfl rfl (pnSel_of (I := []) rfl rfl) (pnFree_none rfl) rfl (by omega) (Nat.le_of_ble_eq_true rfl) rfl ?_
  refine pn_bne (q := 18) (tgt := 22) dX7_told_15 (by decide) rfl (fun hc15 => ?_) (fun hc15 => ?_)
  · refine pn_iconst (q := 23) (v := nB false) dX7_told_22 rfl (by decide) ?_
    refine pn_iconst (q := 24) (v := nI 1) dX7_told_23 rfl (by decide) ?_
    refine pn_iconst (q := 25) (v := nI 1) dX7_told_24 rfl (by decide) ?_
    refine pn_idV (q := 28) (bc9 := 0) (bs9 := 0) (m_badF adK d Y P (0, a.2) b c e f g h 1 1 rfl) lkX7_206 dX7_told_25 rfl rfl (hM_cl) (hM_cl) (Nat.le_of_ble_eq_true rfl) rfl rfl rfl rfl rfl rfl (by omega) (by omega) (by omega) (Nat.le_of_ble_eq_true rfl) ?_
    refine pn_beq (q := 31) (tgt := 33) dX7_told_28 (by decide) rfl (fun hc28 => ?_) (fun hc28 => ?_)
    · refine pn_iload_n (q := 34) dX7_told_33 rfl rfl ?_
      refine pn_tabIn (q := 120) (off := 86) dX7_told_34 (by decide) (by decide) (by decide) (by decide) ?_
      refine pn_aload_n (q := 121) dX7_told_120 rfl rfl rfl ?_
      refine pn_idV (q := 124) (bc9 := 0) (bs9 := 0) (m_leftNow adK d Y P (0, a.2) b c e f g h hpc) lkX7_225 dX7_told_121 rfl rfl (hM_cl) (hM_cl) (Nat.le_of_ble_eq_true rfl) rfl rfl rfl rfl rfl rfl (by omega) (by omega) (by omega) (Nat.le_of_ble_eq_true rfl) ?_
      refine pn_roS1 (q := 127) (m_ones adK d (lfN Y.2.2.2.2.2.2.1 Y.2.1 Y.2.2.2.2.1)) lkX7_229 dX7_told_124 rfl rfl (pnSel_of (I := []) rfl rfl) (pnFree_none rfl) rfl (by omega) (Nat.le_of_ble_eq_true rfl) rfl ?_
      refine pn_iret dX7_told_127 rfl ?_
      exact ⟨rfl, rfl⟩
    · cases hc28
  · cases hc15
set_option maxRecDepth 100000 in
theorem m_told6 (adK : Nat → Nat) (d : Nat) (Y : MN) (P : Nat → MN) (a : G0) (b : G1) (c : G3) (e : G4) (f : G5) (g : G6) (h : G7) (hpc : Y.2.2.2.2.1 ≤ 60) : pnCt mX7_told adK (d + 3) 0 0 [.ref 0, .int (nI 6)] (hM Y P a b c e f g h) (pnIs (.inl (some (.int (nI Y.2.2.2.2.2.1)))) (hM Y P (0, a.2) b c e f g h)) := by
  refine pnCt_of (by decide) kX7_told (Nat.le_of_ble_eq_true rfl) rfl hM_cl (pnCS_b rfl) ?_
  have C0 := m_in adK d (nI 6).toInt64 (lN 0) (lN 8)
  rw [inL_has (by omega), hasN_in (by omega) (by omega)] at C0
  refine pn_aload_n (q := 1) dX7_told_0 rfl rfl rfl ?_
  refine pn_iconst (q := 2) (v := nI 0) dX7_told_1 rfl (by decide) ?_
  (refine pn_put (q := 5) fX7_63 dX7_told_2 rfl rfl (Nat.le_of_ble_eq_true rfl) (pnF_int _) ?_)
  refine pn_eq (h' := (hM Y P (0, a.2) b c e f g h)) (st' := _) rfl rfl ?_
  refine pn_aload_n (q := 6) dX7_told_5 rfl rfl rfl ?_
  refine pn_iload_n (q := 7) dX7_told_6 rfl rfl ?_
  refine pn_i2l (q := 8) dX7_told_7 rfl ?_
  refine pn_lconst (q := 9) (v := lN 0) dX7_told_8 rfl (by decide) ?_
  refine pn_ldc2 (q := 12) pw_1443 dX7_told_9 rfl ?_; refine pn_eq (h' := _) (st' := .long (lN 8) :: _) rfl rfl ?_
  refine pn_roS1 (q := 15) (C0) lkX7_92 dX7_told_12 rfl rfl (pnSel_of (I := []) rfl rfl) (pnFree_none rfl) rfl (by omega) (Nat.le_of_ble_eq_true rfl) rfl ?_
  refine pn_bne (q := 18) (tgt := 22) dX7_told_15 (by decide) rfl (fun hc15 => ?_) (fun hc15 => ?_)
  · refine pn_iconst (q := 23) (v := nB false) dX7_told_22 rfl (by decide) ?_
    refine pn_iconst (q := 24) (v := nI 1) dX7_told_23 rfl (by decide) ?_
    refine pn_iconst (q := 25) (v := nI 1) dX7_told_24 rfl (by decide) ?_
    refine pn_idV (q := 28) (bc9 := 0) (bs9 := 0) (m_badF adK d Y P (0, a.2) b c e f g h 1 1 rfl) lkX7_206 dX7_told_25 rfl rfl (hM_cl) (hM_cl) (Nat.le_of_ble_eq_true rfl) rfl rfl rfl rfl rfl rfl (by omega) (by omega) (by omega) (Nat.le_of_ble_eq_true rfl) ?_
    refine pn_beq (q := 31) (tgt := 33) dX7_told_28 (by decide) rfl (fun hc28 => ?_) (fun hc28 => ?_)
    · refine pn_iload_n (q := 34) dX7_told_33 rfl rfl ?_
      refine pn_tabIn (q := 128) (off := 94) dX7_told_34 (by decide) (by decide) (by decide) (by decide) ?_
      refine pn_aload_n (q := 129) dX7_told_128 rfl rfl rfl ?_
      refine pn_get (q := 132) fX7_20 dX7_told_129 rfl rfl rfl ?_
      refine pn_iconst (q := 133) (v := nI 4) dX7_told_132 rfl (by decide) ?_
      (first | refine pn_lald1 (q := 134) dX7_told_133 rfl rfl rfl (by omega) (by first | decide | omega) ?_ | refine pn_lald5 (q := 134) dX7_told_133 rfl rfl rfl (by omega) (by first | decide | omega) ?_); refine pn_eq (h' := _) (st' := .long (lN Y.2.2.2.2.2.1) :: _) rfl rfl ?_
      first | with_reducible refine pn_l2iN (q := 135) dX7_told_134 rfl ?_ | refine pn_l2i (q := 135) dX7_told_134 rfl ?_
      refine pn_iret dX7_told_135 rfl ?_
      exact ⟨rfl, rfl⟩
    · cases hc28
  · cases hc15
set_option maxRecDepth 100000 in
theorem m_told7 (adK : Nat → Nat) (d : Nat) (Y : MN) (P : Nat → MN) (a : G0) (b : G1) (c : G3) (e : G4) (f : G5) (g : G6) (h : G7) (hpc : Y.2.2.2.2.1 ≤ 60) : pnCt mX7_told adK (d + 3) 0 0 [.ref 0, .int (nI 7)] (hM Y P a b c e f g h) (pnIs (.inl (some (.int (nI a.2.2.1)))) (hM Y P (0, a.2) b c e f g h)) := by
  refine pnCt_of (by decide) kX7_told (Nat.le_of_ble_eq_true rfl) rfl hM_cl (pnCS_b rfl) ?_
  have C0 := m_in adK d (nI 7).toInt64 (lN 0) (lN 8)
  rw [inL_has (by omega), hasN_in (by omega) (by omega)] at C0
  refine pn_aload_n (q := 1) dX7_told_0 rfl rfl rfl ?_
  refine pn_iconst (q := 2) (v := nI 0) dX7_told_1 rfl (by decide) ?_
  (refine pn_put (q := 5) fX7_63 dX7_told_2 rfl rfl (Nat.le_of_ble_eq_true rfl) (pnF_int _) ?_)
  refine pn_eq (h' := (hM Y P (0, a.2) b c e f g h)) (st' := _) rfl rfl ?_
  refine pn_aload_n (q := 6) dX7_told_5 rfl rfl rfl ?_
  refine pn_iload_n (q := 7) dX7_told_6 rfl rfl ?_
  refine pn_i2l (q := 8) dX7_told_7 rfl ?_
  refine pn_lconst (q := 9) (v := lN 0) dX7_told_8 rfl (by decide) ?_
  refine pn_ldc2 (q := 12) pw_1443 dX7_told_9 rfl ?_; refine pn_eq (h' := _) (st' := .long (lN 8) :: _) rfl rfl ?_
  refine pn_roS1 (q := 15) (C0) lkX7_92 dX7_told_12 rfl rfl (pnSel_of (I := []) rfl rfl) (pnFree_none rfl) rfl (by omega) (Nat.le_of_ble_eq_true rfl) rfl ?_
  refine pn_bne (q := 18) (tgt := 22) dX7_told_15 (by decide) rfl (fun hc15 => ?_) (fun hc15 => ?_)
  · refine pn_iconst (q := 23) (v := nB false) dX7_told_22 rfl (by decide) ?_
    refine pn_iconst (q := 24) (v := nI 1) dX7_told_23 rfl (by decide) ?_
    refine pn_iconst (q := 25) (v := nI 1) dX7_told_24 rfl (by decide) ?_
    refine pn_idV (q := 28) (bc9 := 0) (bs9 := 0) (m_badF adK d Y P (0, a.2) b c e f g h 1 1 rfl) lkX7_206 dX7_told_25 rfl rfl (hM_cl) (hM_cl) (Nat.le_of_ble_eq_true rfl) rfl rfl rfl rfl rfl rfl (by omega) (by omega) (by omega) (Nat.le_of_ble_eq_true rfl) ?_
    refine pn_beq (q := 31) (tgt := 33) dX7_told_28 (by decide) rfl (fun hc28 => ?_) (fun hc28 => ?_)
    · refine pn_iload_n (q := 34) dX7_told_33 rfl rfl ?_
      refine pn_tabIn (q := 136) (off := 102) dX7_told_34 (by decide) (by decide) (by decide) (by decide) ?_
      refine pn_aload_n (q := 137) dX7_told_136 rfl rfl rfl ?_
      refine pn_get (q := 140) fX7_66 dX7_told_137 rfl rfl rfl ?_
      refine pn_iret dX7_told_140 rfl ?_
      exact ⟨rfl, rfl⟩
    · cases hc28
  · cases hc15
set_option maxRecDepth 100000 in
theorem m_told8 (adK : Nat → Nat) (d : Nat) (Y : MN) (P : Nat → MN) (a : G0) (b : G1) (c : G3) (e : G4) (f : G5) (g : G6) (h : G7) : pnCt mX7_told adK (d + 3) 0 0 [.ref 0, .int (nI 8)] (hM Y P a b c e f g h) (pnIs (.inl (some (.int (nI a.2.2.2.2)))) (hM Y P (0, a.2) b c e f g h)) := by
  refine pnCt_of (by decide) kX7_told (Nat.le_of_ble_eq_true rfl) rfl hM_cl (pnCS_b rfl) ?_
  have C0 := m_in adK d (nI 8).toInt64 (lN 0) (lN 8)
  rw [inL_has (by omega), hasN_in (by omega) (by omega)] at C0
  refine pn_aload_n (q := 1) dX7_told_0 rfl rfl rfl ?_
  refine pn_iconst (q := 2) (v := nI 0) dX7_told_1 rfl (by decide) ?_
  (refine pn_put (q := 5) fX7_63 dX7_told_2 rfl rfl (Nat.le_of_ble_eq_true rfl) (pnF_int _) ?_)
  refine pn_eq (h' := (hM Y P (0, a.2) b c e f g h)) (st' := _) rfl rfl ?_
  refine pn_aload_n (q := 6) dX7_told_5 rfl rfl rfl ?_
  refine pn_iload_n (q := 7) dX7_told_6 rfl rfl ?_
  refine pn_i2l (q := 8) dX7_told_7 rfl ?_
  refine pn_lconst (q := 9) (v := lN 0) dX7_told_8 rfl (by decide) ?_
  refine pn_ldc2 (q := 12) pw_1443 dX7_told_9 rfl ?_; refine pn_eq (h' := _) (st' := .long (lN 8) :: _) rfl rfl ?_
  refine pn_roS1 (q := 15) (C0) lkX7_92 dX7_told_12 rfl rfl (pnSel_of (I := []) rfl rfl) (pnFree_none rfl) rfl (by omega) (Nat.le_of_ble_eq_true rfl) rfl ?_
  refine pn_bne (q := 18) (tgt := 22) dX7_told_15 (by decide) rfl (fun hc15 => ?_) (fun hc15 => ?_)
  · refine pn_iconst (q := 23) (v := nB false) dX7_told_22 rfl (by decide) ?_
    refine pn_iconst (q := 24) (v := nI 1) dX7_told_23 rfl (by decide) ?_
    refine pn_iconst (q := 25) (v := nI 1) dX7_told_24 rfl (by decide) ?_
    refine pn_idV (q := 28) (bc9 := 0) (bs9 := 0) (m_badF adK d Y P (0, a.2) b c e f g h 1 1 rfl) lkX7_206 dX7_told_25 rfl rfl (hM_cl) (hM_cl) (Nat.le_of_ble_eq_true rfl) rfl rfl rfl rfl rfl rfl (by omega) (by omega) (by omega) (Nat.le_of_ble_eq_true rfl) ?_
    refine pn_beq (q := 31) (tgt := 33) dX7_told_28 (by decide) rfl (fun hc28 => ?_) (fun hc28 => ?_)
    · refine pn_iload_n (q := 34) dX7_told_33 rfl rfl ?_
      refine pn_tabOut (q := 141) dX7_told_34 (by decide) (by decide) ?_
      refine pn_aload_n (q := 142) dX7_told_141 rfl rfl rfl ?_
      refine pn_get (q := 145) fX7_268 dX7_told_142 rfl rfl rfl ?_
      refine pn_iret dX7_told_145 rfl ?_
      exact ⟨rfl, rfl⟩
    · cases hc28
  · cases hc15
set_option maxRecDepth 100000 in
theorem m_toldX (adK : Nat → Nat) (d : Nat) (Y : MN) (P : Nat → MN) (a : G0) (b : G1) (c : G3) (e : G4) (f : G5) (g : G6) (h : G7) (x : Int32) (hx : hasN 9 x = false) : pnCt mX7_told adK (d + 3) 0 0 [.ref 0, .int x] (hM Y P a b c e f g h) (pnIs (.inl (some (.int (nI 0)))) (hM Y P (bdA (0, a.2) 1 1) b c e f g h)) := by
  refine pnCt_of (by decide) kX7_told (Nat.le_of_ble_eq_true rfl) rfl hM_cl (pnCS_b rfl) ?_
  have C0 := m_in adK d x.toInt64 (lN 0) (lN 8)
  rw [inL_has (by omega), hx] at C0
  refine pn_aload_n (q := 1) dX7_told_0 rfl rfl rfl ?_
  refine pn_iconst (q := 2) (v := nI 0) dX7_told_1 rfl (by decide) ?_
  (refine pn_put (q := 5) fX7_63 dX7_told_2 rfl rfl (Nat.le_of_ble_eq_true rfl) (pnF_int _) ?_)
  refine pn_eq (h' := (hM Y P (0, a.2) b c e f g h)) (st' := _) rfl rfl ?_
  refine pn_aload_n (q := 6) dX7_told_5 rfl rfl rfl ?_
  refine pn_iload_n (q := 7) dX7_told_6 rfl rfl ?_
  refine pn_i2l (q := 8) dX7_told_7 rfl ?_
  refine pn_lconst (q := 9) (v := lN 0) dX7_told_8 rfl (by decide) ?_
  refine pn_ldc2 (q := 12) pw_1443 dX7_told_9 rfl ?_; refine pn_eq (h' := _) (st' := .long (lN 8) :: _) rfl rfl ?_
  refine pn_roS1 (q := 15) (C0) lkX7_92 dX7_told_12 rfl rfl (pnSel_of (I := []) rfl rfl) (pnFree_none rfl) rfl (by omega) (Nat.le_of_ble_eq_true rfl) rfl ?_
  refine pn_bne (q := 18) (tgt := 22) dX7_told_15 (by decide) rfl (fun hc15 => ?_) (fun hc15 => ?_)
  · cases hc15
  · refine pn_iconst (q := 19) (v := nB true) dX7_told_18 rfl (by decide) ?_
    refine pn_goto (q := 23) dX7_told_19 (by decide) ?_
    refine pn_iconst (q := 24) (v := nI 1) dX7_told_23 rfl (by decide) ?_
    refine pn_iconst (q := 25) (v := nI 1) dX7_told_24 rfl (by decide) ?_
    refine pn_idV (q := 28) (bc9 := 0) (bs9 := 0) (m_badT adK d Y P (0, a.2) b c e f g h 1 1 rfl (by omega) (by omega) (by omega)) lkX7_206 dX7_told_25 rfl rfl (hM_cl) (hM_cl) (Nat.le_of_ble_eq_true rfl) rfl rfl rfl rfl rfl rfl (by omega) (by omega) (by omega) (Nat.le_of_ble_eq_true rfl) ?_
    refine pn_beq (q := 31) (tgt := 33) dX7_told_28 (by decide) rfl (fun hc28 => ?_) (fun hc28 => ?_)
    · cases hc28
    · refine pn_iconst (q := 32) (v := nI 0) dX7_told_31 rfl (by decide) ?_
      refine pn_iret dX7_told_32 rfl ?_
      exact ⟨rfl, rfl⟩
