/-! parts of a network, as the reference tells them -/
def ptC (A : Nat → Int64) (s : Int64) : Nat → Nat
  | 0 => 0
  | k + 1 => if A k &&& (s ^^^ (-1)) = lN 0 then ptC A s k + 1 else ptC A s k
theorem ptC_le (A : Nat → Int64) (s : Int64) : ∀ k, ptC A s k ≤ k
  | 0 => Nat.le_refl _
  | k + 1 => by have := ptC_le A s k; unfold ptC; split <;> omega
/-- what stands once all is laid: the rows hold what is counted -/
def lyO (e : G4) : Prop := e.2.2.2.2.2.2.2.2 ≤ e.1 ∧ e.1 ≤ 60000 ∧ ∀ l, l < 57 → e.2.2.2.2.1 l ≤ e.2.2.2.2.2.2.2.2
set_option maxRecDepth 100000 in
theorem m_partsOf (adK : Nat → Nat) (d : Nat) (Y : MN) (P : Nat → MN) (a : G0) (b : G1) (c : G3) (e : G4) (f : G5) (g : G6) (h : G7) (x : Int64) (hp : lyP Y c e) (hO : lyO (lyG Y c e)) : pnCt mX7_partsOf adK (d + 21) (lyM Y c e) (lyN Y c e) [.ref 0, .long x] (hM Y P a b c e f g h) (pnIs (.inl (some (.int (nI (ptC (lyG Y c e).2.1 x (lyG Y c e).2.2.2.2.2.2.2.2))))) (hM Y P a b (lyC Y c e) (lyG Y c e) f g h)) := by
  refine pnCt_of (by decide) kX7_partsOf (Nat.le_of_ble_eq_true rfl) rfl hM_cl (pnCS_b rfl) ?_
  have CL := m_lays adK d Y P a b c e f g h hp
  generalize (lyG Y c e) = e1 at *
  generalize (lyC Y c e) = c1 at *
  obtain ⟨o1, o2, o3⟩ := hO
  have loop : ∀ (z k : Nat), k + z = e1.2.2.2.2.2.2.2.2 → pnWP mX7_partsOf adK (d + 21) (pnIs (.inl (some (.int (nI (ptC e1.2.1 x e1.2.2.2.2.2.2.2.2))))) (hM Y P a b c1 e1 f g h)) 0 0 (hM Y P a b c1 e1 f g h) [some (.ref 0), some (.long x), none, some (.int (nI (ptC e1.2.1 x k))), some (.int (nI k))] [] 9 := by
    intro z
    induction z with
    | zero =>
      intro k hk
      refine pn_iload (q := 11) dX7_partsOf_9 rfl rfl ?_
      refine pn_aload_n (q := 12) dX7_partsOf_11 rfl rfl rfl ?_
      refine pn_get (q := 15) fX7_241 dX7_partsOf_12 rfl rfl rfl ?_
      first | refine pn_nge (q := 18) (tgt := 50) dX7_partsOf_15 (by decide) rfl (by omega) (by omega) (fun hc15 => ?_) (fun hc15 => ?_) | refine pn_icmp_ge (q := 18) (tgt := 50) dX7_partsOf_15 (by decide) rfl (fun hc15 => ?_) (fun hc15 => ?_)
      · refine pn_iload_n (q := 51) dX7_partsOf_50 rfl rfl ?_
        refine pn_iret dX7_partsOf_51 rfl ?_
        exact ⟨by rw [show k = e1.2.2.2.2.2.2.2.2 by omega], rfl⟩
      · omega
    | succ z ih =>
      intro k hk
      have k9 := ih (k + 1) (by omega)
      have e2 : ptC e1.2.1 x (k + 1) = if e1.2.1 k &&& (x ^^^ (-1)) = lN 0 then ptC e1.2.1 x k + 1 else ptC e1.2.1 x k := rfl
      rw [e2] at k9
      have := ptC_le e1.2.1 x k
      refine pn_iload (q := 11) dX7_partsOf_9 rfl rfl ?_
      refine pn_aload_n (q := 12) dX7_partsOf_11 rfl rfl rfl ?_
      refine pn_get (q := 15) fX7_241 dX7_partsOf_12 rfl rfl rfl ?_
      first | refine pn_nge (q := 18) (tgt := 50) dX7_partsOf_15 (by decide) rfl (by omega) (by omega) (fun hc15 => ?_) (fun hc15 => ?_) | refine pn_icmp_ge (q := 18) (tgt := 50) dX7_partsOf_15 (by decide) rfl (fun hc15 => ?_) (fun hc15 => ?_)
      · omega
      · refine pn_iload_n (q := 19) dX7_partsOf_18 rfl rfl ?_
        refine pn_aload_n (q := 20) dX7_partsOf_19 rfl rfl rfl ?_
        refine pn_get (q := 23) fX7_41 dX7_partsOf_20 rfl rfl rfl ?_
        refine pn_iload (q := 25) dX7_partsOf_23 rfl rfl ?_
        refine pn_lald5 (q := 26) dX7_partsOf_25 rfl rfl rfl (by omega) (by omega) ?_
        refine pn_lload_n (q := 27) dX7_partsOf_26 rfl rfl ?_
        refine pn_ldc2 (q := 30) pw_1283 dX7_partsOf_27 rfl ?_
        refine pn_lxor (q := 31) dX7_partsOf_30 rfl ?_
        refine pn_land (q := 32) dX7_partsOf_31 rfl ?_
        refine pn_lconst (q := 33) (v := lN 0) dX7_partsOf_32 rfl (by decide) ?_
        refine pn_lne (q1 := 34) (q := 37) (tgt := 41) dX7_partsOf_33 rfl dX7_partsOf_34 (by decide) rfl (fun hc33 => ?_) (fun hc33 => ?_)
        · refine pn_iconst (q := 42) (v := nI 0) dX7_partsOf_41 rfl (by decide) ?_
          first | with_reducible refine pn_iaddN (q := 43) dX7_partsOf_42 rfl ?_ | refine pn_iadd (q := 43) dX7_partsOf_42 rfl ?_
          refine pn_istore_n (q := 44) dX7_partsOf_43 rfl (by decide) ?_
          first | refine pn_iinc1 (q := 47) dX7_partsOf_44 rfl rfl (by decide) ?_ | refine pn_iinc (q := 47) (mm := 1) dX7_partsOf_44 rfl rfl (by decide) (by decide) ?_
          refine pn_goto (q := 9) dX7_partsOf_47 (by decide) ?_
          (first | (rw [if_pos hc33] at k9; exact k9) | (rw [if_neg hc33] at k9; exact k9))
        · refine pn_iconst (q := 38) (v := nI 1) dX7_partsOf_37 rfl (by decide) ?_
          refine pn_goto (q := 42) dX7_partsOf_38 (by decide) ?_
          first | with_reducible refine pn_iaddN (q := 43) dX7_partsOf_42 rfl ?_ | refine pn_iadd (q := 43) dX7_partsOf_42 rfl ?_
          refine pn_istore_n (q := 44) dX7_partsOf_43 rfl (by decide) ?_
          first | refine pn_iinc1 (q := 47) dX7_partsOf_44 rfl rfl (by decide) ?_ | refine pn_iinc (q := 47) (mm := 1) dX7_partsOf_44 rfl rfl (by decide) (by decide) ?_
          refine pn_goto (q := 9) dX7_partsOf_47 (by decide) ?_
          (first | (rw [if_pos hc33] at k9; exact k9) | (rw [if_neg hc33] at k9; exact k9))
  refine pn_aload_n (q := 1) dX7_partsOf_0 rfl rfl rfl ?_
  refine pn_idV (q := 4) (bc9 := 0) (bs9 := 0) (CL) lkX7_265 dX7_partsOf_1 rfl rfl (hM_cl) (hM_cl) (Nat.le_of_ble_eq_true rfl) rfl rfl rfl rfl rfl rfl (by omega) (by omega) (by omega) (Nat.le_of_ble_eq_true rfl) ?_
  refine pn_iconst (q := 5) (v := nI 0) dX7_partsOf_4 rfl (by decide) ?_
  refine pn_istore_n (q := 6) dX7_partsOf_5 rfl (by decide) ?_
  refine pn_iconst (q := 7) (v := nI 0) dX7_partsOf_6 rfl (by decide) ?_
  refine pn_istore (q := 9) dX7_partsOf_7 rfl (by decide) ?_
  exact loop e1.2.2.2.2.2.2.2.2 0 (by omega)
set_option maxRecDepth 100000 in
theorem m_partsX (adK : Nat → Nat) (d : Nat) (Y : MN) (P : Nat → MN) (a : G0) (b : G1) (c : G3) (e : G4) (f : G5) (g : G6) (h : G7) (w : Int32) (hw : ¬ (0 ≤ w.toInt ∧ w.toInt ≤ 1)) : pnCt mX7_parts adK (d + 22) 0 0 [.ref 0, .int w] (hM Y P a b c e f g h) (pnIs (.inl (some (.int (nI 0)))) (hM Y P (bdA (0, a.2) 1 1) b c e f g h)) := by
  refine pnCt_of (by decide) kX7_parts (Nat.le_of_ble_eq_true rfl) rfl hM_cl (pnCS_b rfl) ?_
  have C0 := m_in adK d w.toInt64 (lN 0) (lN 1)
  rw [inL_nat (by omega) (by omega), show decide (((0 : Nat) : Int) ≤ w.toInt ∧ w.toInt ≤ ((1 : Nat) : Int)) = false from decide_eq_false hw] at C0
  refine pn_aload_n (q := 1) dX7_parts_0 rfl rfl rfl ?_
  refine pn_iconst (q := 2) (v := nI 0) dX7_parts_1 rfl (by decide) ?_
  (refine pn_put (q := 5) fX7_63 dX7_parts_2 rfl rfl (Nat.le_of_ble_eq_true rfl) (pnF_int _) ?_)
  refine pn_eq (h' := (hM Y P (0, a.2) b c e f g h)) (st' := _) rfl rfl ?_
  refine pn_aload_n (q := 6) dX7_parts_5 rfl rfl rfl ?_
  refine pn_iload_n (q := 7) dX7_parts_6 rfl rfl ?_
  refine pn_i2l (q := 8) dX7_parts_7 rfl ?_
  refine pn_lconst (q := 9) (v := lN 0) dX7_parts_8 rfl (by decide) ?_
  refine pn_lconst (q := 10) (v := lN 1) dX7_parts_9 rfl (by decide) ?_
  refine pn_roS1 (q := 13) (C0) lkX7_92 dX7_parts_10 rfl rfl (pnSel_of (I := []) rfl rfl) (pnFree_none rfl) rfl (by omega) (Nat.le_of_ble_eq_true rfl) rfl ?_
  refine pn_bne (q := 16) (tgt := 20) dX7_parts_13 (by decide) rfl (fun hc13 => ?_) (fun hc13 => ?_)
  · cases hc13
  · refine pn_iconst (q := 17) (v := nB true) dX7_parts_16 rfl (by decide) ?_
    refine pn_goto (q := 21) dX7_parts_17 (by decide) ?_
    refine pn_iconst (q := 22) (v := nI 1) dX7_parts_21 rfl (by decide) ?_
    refine pn_iconst (q := 23) (v := nI 1) dX7_parts_22 rfl (by decide) ?_
    refine pn_idV (q := 26) (bc9 := 0) (bs9 := 0) (m_badT adK d Y P (0, a.2) b c e f g h 1 1 rfl (by omega) (by omega) (by omega)) lkX7_206 dX7_parts_23 rfl rfl (hM_cl) (hM_cl) (Nat.le_of_ble_eq_true rfl) rfl rfl rfl rfl rfl rfl (by omega) (by omega) (by omega) (Nat.le_of_ble_eq_true rfl) ?_
    refine pn_beq (q := 29) (tgt := 33) dX7_parts_26 (by decide) rfl (fun hc26 => ?_) (fun hc26 => ?_)
    · cases hc26
    · refine pn_iconst (q := 30) (v := nI 0) dX7_parts_29 rfl (by decide) ?_
      refine pn_goto (q := 55) dX7_parts_30 (by decide) ?_
      refine pn_iret dX7_parts_55 rfl ?_
      exact ⟨rfl, rfl⟩
set_option maxRecDepth 100000 in
theorem m_parts0 (adK : Nat → Nat) (d : Nat) (Y : MN) (P : Nat → MN) (a : G0) (b : G1) (c : G3) (e : G4) (f : G5) (g : G6) (h : G7) (hp : lyP Y c e) (hO : lyO (lyG Y c e)) (hpc : Y.2.2.2.2.1 ≤ 60) : pnCt mX7_parts adK (d + 22) (lyM Y c e) (lyN Y c e) [.ref 0, .int (nI 0)] (hM Y P a b c e f g h) (pnIs (.inl (some (.int (nI (ptC (lyG Y c e).2.1 Y.2.1 (lyG Y c e).2.2.2.2.2.2.2.2))))) (hM Y P (0, a.2) b (lyC Y c e) (lyG Y c e) f g h)) := by
  refine pnCt_of (by decide) kX7_parts (Nat.le_of_ble_eq_true rfl) rfl hM_cl (pnCS_b rfl) ?_
  have C0 := m_in adK d (nI 0).toInt64 (lN 0) (lN 1)
  rw [inL_range (by omega) (by omega) 0 (by omega) (by omega)] at C0
  refine pn_aload_n (q := 1) dX7_parts_0 rfl rfl rfl ?_
  refine pn_iconst (q := 2) (v := nI 0) dX7_parts_1 rfl (by decide) ?_
  (refine pn_put (q := 5) fX7_63 dX7_parts_2 rfl rfl (Nat.le_of_ble_eq_true rfl) (pnF_int _) ?_)
  refine pn_eq (h' := (hM Y P (0, a.2) b c e f g h)) (st' := _) rfl rfl ?_
  refine pn_aload_n (q := 6) dX7_parts_5 rfl rfl rfl ?_
  refine pn_iload_n (q := 7) dX7_parts_6 rfl rfl ?_
  refine pn_i2l (q := 8) dX7_parts_7 rfl ?_
  refine pn_lconst (q := 9) (v := lN 0) dX7_parts_8 rfl (by decide) ?_
  refine pn_lconst (q := 10) (v := lN 1) dX7_parts_9 rfl (by decide) ?_
  refine pn_roS1 (q := 13) (C0) lkX7_92 dX7_parts_10 rfl rfl (pnSel_of (I := []) rfl rfl) (pnFree_none rfl) rfl (by omega) (Nat.le_of_ble_eq_true rfl) rfl ?_
  refine pn_bne (q := 16) (tgt := 20) dX7_parts_13 (by decide) rfl (fun hc13 => ?_) (fun hc13 => ?_)
  · refine pn_iconst (q := 21) (v := nB false) dX7_parts_20 rfl (by decide) ?_
    refine pn_iconst (q := 22) (v := nI 1) dX7_parts_21 rfl (by decide) ?_
    refine pn_iconst (q := 23) (v := nI 1) dX7_parts_22 rfl (by decide) ?_
    refine pn_idV (q := 26) (bc9 := lyM Y c e) (bs9 := lyN Y c e) (m_badF adK d Y P (0, a.2) b c e f g h 1 1 rfl) lkX7_206 dX7_parts_23 rfl rfl (hM_cl) (hM_cl) (Nat.le_of_ble_eq_true rfl) rfl rfl rfl rfl rfl rfl (by omega) (by omega) (by omega) (Nat.le_of_ble_eq_true rfl) ?_
    refine pn_beq (q := 29) (tgt := 33) dX7_parts_26 (by decide) rfl (fun hc26 => ?_) (fun hc26 => ?_)
    · refine pn_aload_n (q := 34) dX7_parts_33 rfl rfl rfl ?_
      refine pn_iload_n (q := 35) dX7_parts_34 rfl rfl ?_
      first | refine pn_zne (q := 38) (tgt := 48) dX7_parts_35 (by decide) rfl (by omega) (fun hc35 => ?_) (fun hc35 => ?_) | refine pn_if_ne (q := 38) (tgt := 48) dX7_parts_35 (by decide) rfl (fun hc35 => ?_) (fun hc35 => ?_)
      · omega
      · refine pn_aload_n (q := 39) dX7_parts_38 rfl rfl rfl ?_
        refine pn_get (q := 42) fX7_20 dX7_parts_39 rfl rfl rfl ?_
        refine pn_bipush (q := 44) (v := nI 29) dX7_parts_42 rfl (by decide) ?_
        (first | refine pn_lald1 (q := 45) dX7_parts_44 rfl rfl rfl (by omega) (by first | decide | omega) ?_ | refine pn_lald5 (q := 45) dX7_parts_44 rfl rfl rfl (by omega) (by first | decide | omega) ?_); refine pn_eq (h' := _) (st' := .long (Y.2.1) :: _) rfl rfl ?_
        refine pn_goto (q := 52) dX7_parts_45 (by decide) ?_
        refine pn_idV (q := 55) (bc9 := 0) (bs9 := 0) (m_partsOf adK d Y P (0, a.2) b c e f g h Y.2.1 hp hO) lkX7_343 dX7_parts_52 rfl rfl (hM_cl) (hM_cl) (Nat.le_of_ble_eq_true rfl) rfl rfl rfl rfl rfl rfl (by omega) (by omega) (by omega) (Nat.le_of_ble_eq_true rfl) ?_
        refine pn_iret dX7_parts_55 rfl ?_
        exact ⟨rfl, rfl⟩
    · cases hc26
  · cases hc13
set_option maxRecDepth 100000 in
theorem m_parts1 (adK : Nat → Nat) (d : Nat) (Y : MN) (P : Nat → MN) (a : G0) (b : G1) (c : G3) (e : G4) (f : G5) (g : G6) (h : G7) (hp : lyP Y c e) (hO : lyO (lyG Y c e)) (hpc : Y.2.2.2.2.1 ≤ 60) : pnCt mX7_parts adK (d + 22) (lyM Y c e) (lyN Y c e) [.ref 0, .int (nI 1)] (hM Y P a b c e f g h) (pnIs (.inl (some (.int (nI (ptC (lyG Y c e).2.1 (lfN Y.2.2.2.2.2.2.1 Y.2.1 Y.2.2.2.2.1) (lyG Y c e).2.2.2.2.2.2.2.2))))) (hM Y P (0, a.2) b (lyC Y c e) (lyG Y c e) f g h)) := by
  refine pnCt_of (by decide) kX7_parts (Nat.le_of_ble_eq_true rfl) rfl hM_cl (pnCS_b rfl) ?_
  have C0 := m_in adK d (nI 1).toInt64 (lN 0) (lN 1)
  rw [inL_range (by omega) (by omega) 1 (by omega) (by omega)] at C0
  refine pn_aload_n (q := 1) dX7_parts_0 rfl rfl rfl ?_
  refine pn_iconst (q := 2) (v := nI 0) dX7_parts_1 rfl (by decide) ?_
  (refine pn_put (q := 5) fX7_63 dX7_parts_2 rfl rfl (Nat.le_of_ble_eq_true rfl) (pnF_int _) ?_)
  refine pn_eq (h' := (hM Y P (0, a.2) b c e f g h)) (st' := _) rfl rfl ?_
  refine pn_aload_n (q := 6) dX7_parts_5 rfl rfl rfl ?_
  refine pn_iload_n (q := 7) dX7_parts_6 rfl rfl ?_
  refine pn_i2l (q := 8) dX7_parts_7 rfl ?_
  refine pn_lconst (q := 9) (v := lN 0) dX7_parts_8 rfl (by decide) ?_
  refine pn_lconst (q := 10) (v := lN 1) dX7_parts_9 rfl (by decide) ?_
  refine pn_roS1 (q := 13) (C0) lkX7_92 dX7_parts_10 rfl rfl (pnSel_of (I := []) rfl rfl) (pnFree_none rfl) rfl (by omega) (Nat.le_of_ble_eq_true rfl) rfl ?_
  refine pn_bne (q := 16) (tgt := 20) dX7_parts_13 (by decide) rfl (fun hc13 => ?_) (fun hc13 => ?_)
  · refine pn_iconst (q := 21) (v := nB false) dX7_parts_20 rfl (by decide) ?_
    refine pn_iconst (q := 22) (v := nI 1) dX7_parts_21 rfl (by decide) ?_
    refine pn_iconst (q := 23) (v := nI 1) dX7_parts_22 rfl (by decide) ?_
    refine pn_idV (q := 26) (bc9 := lyM Y c e) (bs9 := lyN Y c e) (m_badF adK d Y P (0, a.2) b c e f g h 1 1 rfl) lkX7_206 dX7_parts_23 rfl rfl (hM_cl) (hM_cl) (Nat.le_of_ble_eq_true rfl) rfl rfl rfl rfl rfl rfl (by omega) (by omega) (by omega) (Nat.le_of_ble_eq_true rfl) ?_
    refine pn_beq (q := 29) (tgt := 33) dX7_parts_26 (by decide) rfl (fun hc26 => ?_) (fun hc26 => ?_)
    · refine pn_aload_n (q := 34) dX7_parts_33 rfl rfl rfl ?_
      refine pn_iload_n (q := 35) dX7_parts_34 rfl rfl ?_
      first | refine pn_zne (q := 38) (tgt := 48) dX7_parts_35 (by decide) rfl (by omega) (fun hc35 => ?_) (fun hc35 => ?_) | refine pn_if_ne (q := 38) (tgt := 48) dX7_parts_35 (by decide) rfl (fun hc35 => ?_) (fun hc35 => ?_)
      · refine pn_aload_n (q := 49) dX7_parts_48 rfl rfl rfl ?_
        refine pn_idV (q := 52) (bc9 := lyM Y c e) (bs9 := lyN Y c e) (m_leftNow adK d Y P (0, a.2) b c e f g h hpc) lkX7_225 dX7_parts_49 rfl rfl (hM_cl) (hM_cl) (Nat.le_of_ble_eq_true rfl) rfl rfl rfl rfl rfl rfl (by omega) (by omega) (by omega) (Nat.le_of_ble_eq_true rfl) ?_
        refine pn_idV (q := 55) (bc9 := 0) (bs9 := 0) (m_partsOf adK d Y P (0, a.2) b c e f g h (lfN Y.2.2.2.2.2.2.1 Y.2.1 Y.2.2.2.2.1) hp hO) lkX7_343 dX7_parts_52 rfl rfl (hM_cl) (hM_cl) (Nat.le_of_ble_eq_true rfl) rfl rfl rfl rfl rfl rfl (by omega) (by omega) (by omega) (Nat.le_of_ble_eq_true rfl) ?_
        refine pn_iret dX7_parts_55 rfl ?_
        exact ⟨rfl, rfl⟩
      · omega
    · cases hc26
  · cases hc13
def paK (A : Nat → Int64) (s : Int64) (x : Int32) : Nat → Nat → Nat → Option Int64
  | 0, _, _ => none
  | z + 1, i, n => if A i &&& (s ^^^ (-1)) = lN 0 then (if nI n = x then some (A i) else paK A s x z (i + 1) (n + 1)) else paK A s x z (i + 1) n
def paQ (R : Option Int64) (W1 W2 : List pnE) : pnR → List pnE → Prop := match R with
  | some v => pnIs (.inl (some (.long v))) W1
  | none => pnIs (.inl (some (.long (lN 0)))) W2
set_option maxRecDepth 100000 in
theorem m_partAt (adK : Nat → Nat) (d : Nat) (Y : MN) (P : Nat → MN) (a : G0) (b : G1) (c : G3) (e : G4) (f : G5) (g : G6) (h : G7) (hp : lyP Y c e) (hO : lyO (lyG Y c e)) (hpc : Y.2.2.2.2.1 ≤ 60) (x : Int32) (R : Option Int64) (hR : (paK (lyG Y c e).2.1 (lfN Y.2.2.2.2.2.2.1 Y.2.1 Y.2.2.2.2.1) x (lyG Y c e).2.2.2.2.2.2.2.2 0 0) = R) : pnCt mX7_partAt adK (d + 21) (lyM Y c e) (lyN Y c e) [.ref 0, .int x] (hM Y P a b c e f g h) (paQ R (hM Y P (0, a.2) b (lyC Y c e) (lyG Y c e) f g h) (hM Y P (bdA (0, a.2) 1 0) b (lyC Y c e) (lyG Y c e) f g h)) := by
  refine pnCt_of (by decide) kX7_partAt (Nat.le_of_ble_eq_true rfl) rfl hM_cl (pnCS_b rfl) ?_
  have CL := m_lays adK d Y P (0, a.2) b c e f g h hp
  generalize (lyG Y c e) = e1 at *
  generalize (lyC Y c e) = c1 at *
  obtain ⟨o1, o2, o3⟩ := hO
  have CF := m_leftNow adK d Y P (0, a.2) b c1 e1 f g h hpc
  generalize (lfN Y.2.2.2.2.2.2.1 Y.2.1 Y.2.2.2.2.1) = s at *
  have loop : ∀ (z i n : Nat), i + z = e1.2.2.2.2.2.2.2.2 → n ≤ i → paK e1.2.1 s x z i n = R → pnWP mX7_partAt adK (d + 21) (paQ R (hM Y P (0, a.2) b c1 e1 f g h) (hM Y P (bdA (0, a.2) 1 0) b c1 e1 f g h)) 0 0 (hM Y P (0, a.2) b c1 e1 f g h) [some (.ref 0), some (.int x), some (.long s), none, some (.int (nI n)), some (.int (nI i))] [] 20 := by
    intro z
    induction z with
    | zero =>
      intro i n hi hn e9
      have e8 : R = none := e9.symm
      subst e8
      refine pn_iload (q := 22) dX7_partAt_20 rfl rfl ?_
      refine pn_aload_n (q := 23) dX7_partAt_22 rfl rfl rfl ?_
      refine pn_get (q := 26) fX7_241 dX7_partAt_23 rfl rfl rfl ?_
      first | refine pn_nge (q := 29) (tgt := 73) dX7_partAt_26 (by decide) rfl (by omega) (by omega) (fun hc26 => ?_) (fun hc26 => ?_) | refine pn_icmp_ge (q := 29) (tgt := 73) dX7_partAt_26 (by decide) rfl (fun hc26 => ?_) (fun hc26 => ?_)
      · refine pn_aload_n (q := 74) dX7_partAt_73 rfl rfl rfl ?_
        refine pn_iconst (q := 75) (v := nB true) dX7_partAt_74 rfl (by decide) ?_
        refine pn_iconst (q := 76) (v := nI 1) dX7_partAt_75 rfl (by decide) ?_
        refine pn_iconst (q := 77) (v := nI 0) dX7_partAt_76 rfl (by decide) ?_
        refine pn_idV (q := 80) (bc9 := 0) (bs9 := 0) (m_badT adK d Y P (0, a.2) b c1 e1 f g h 1 0 rfl (by omega) (by omega) (by omega)) lkX7_206 dX7_partAt_77 rfl rfl (hM_cl) (hM_cl) (Nat.le_of_ble_eq_true rfl) rfl rfl rfl rfl rfl rfl (by omega) (by omega) (by omega) (Nat.le_of_ble_eq_true rfl) ?_
        refine pn_istore (q := 82) dX7_partAt_80 rfl (by decide) ?_
        refine pn_lconst (q := 83) (v := lN 0) dX7_partAt_82 rfl (by decide) ?_
        refine pn_lret dX7_partAt_83 rfl ?_
        exact ⟨rfl, rfl⟩
      · omega
    | succ z ih =>
      intro i n hi hn e9
      have e7 : paK e1.2.1 s x (z + 1) i n = if e1.2.1 i &&& (s ^^^ (-1)) = lN 0 then (if nI n = x then some (e1.2.1 i) else paK e1.2.1 s x z (i + 1) (n + 1)) else paK e1.2.1 s x z (i + 1) n := rfl
      rw [e9] at e7
      by_cases q1 : e1.2.1 i &&& (s ^^^ (-1)) = lN 0
      · rw [if_pos q1] at e7
        by_cases q2 : nI n = x
        · rw [if_pos q2] at e7
          subst e7
          refine pn_iload (q := 22) dX7_partAt_20 rfl rfl ?_
          refine pn_aload_n (q := 23) dX7_partAt_22 rfl rfl rfl ?_
          refine pn_get (q := 26) fX7_241 dX7_partAt_23 rfl rfl rfl ?_
          first | refine pn_nge (q := 29) (tgt := 73) dX7_partAt_26 (by decide) rfl (by omega) (by omega) (fun hc26 => ?_) (fun hc26 => ?_) | refine pn_icmp_ge (q := 29) (tgt := 73) dX7_partAt_26 (by decide) rfl (fun hc26 => ?_) (fun hc26 => ?_)
          · omega
          · refine pn_aload_n (q := 30) dX7_partAt_29 rfl rfl rfl ?_
            refine pn_get (q := 33) fX7_41 dX7_partAt_30 rfl rfl rfl ?_
            refine pn_iload (q := 35) dX7_partAt_33 rfl rfl ?_
            refine pn_lald5 (q := 36) dX7_partAt_35 rfl rfl rfl (by omega) (by omega) ?_
            refine pn_lload_n (q := 37) dX7_partAt_36 rfl rfl ?_
            refine pn_ldc2 (q := 40) pw_1283 dX7_partAt_37 rfl ?_
            refine pn_lxor (q := 41) dX7_partAt_40 rfl ?_
            refine pn_land (q := 42) dX7_partAt_41 rfl ?_
            refine pn_lconst (q := 43) (v := lN 0) dX7_partAt_42 rfl (by decide) ?_
            refine pn_leq (q1 := 44) (q := 47) (tgt := 50) dX7_partAt_43 rfl dX7_partAt_44 (by decide) rfl (fun hc43 => ?_) (fun hc43 => ?_)
            · refine pn_iload (q := 52) dX7_partAt_50 rfl rfl ?_
              refine pn_iload_n (q := 53) dX7_partAt_52 rfl rfl ?_
              refine pn_icmp_ne (q := 56) (tgt := 64) dX7_partAt_53 (by decide) rfl (fun hc53 => ?_) (fun hc53 => ?_)
              · exact (hc53 q2).elim
              · refine pn_aload_n (q := 57) dX7_partAt_56 rfl rfl rfl ?_
                refine pn_get (q := 60) fX7_41 dX7_partAt_57 rfl rfl rfl ?_
                refine pn_iload (q := 62) dX7_partAt_60 rfl rfl ?_
                refine pn_lald5 (q := 63) dX7_partAt_62 rfl rfl rfl (by omega) (by omega) ?_
                refine pn_lret dX7_partAt_63 rfl ?_
                exact ⟨rfl, rfl⟩
            · exact (hc43 q1).elim
        · rw [if_neg q2] at e7
          have k9 := ih (i + 1) (n + 1) (by omega) (by omega) e7.symm
          refine pn_iload (q := 22) dX7_partAt_20 rfl rfl ?_
          refine pn_aload_n (q := 23) dX7_partAt_22 rfl rfl rfl ?_
          refine pn_get (q := 26) fX7_241 dX7_partAt_23 rfl rfl rfl ?_
          first | refine pn_nge (q := 29) (tgt := 73) dX7_partAt_26 (by decide) rfl (by omega) (by omega) (fun hc26 => ?_) (fun hc26 => ?_) | refine pn_icmp_ge (q := 29) (tgt := 73) dX7_partAt_26 (by decide) rfl (fun hc26 => ?_) (fun hc26 => ?_)
          · omega
          · refine pn_aload_n (q := 30) dX7_partAt_29 rfl rfl rfl ?_
            refine pn_get (q := 33) fX7_41 dX7_partAt_30 rfl rfl rfl ?_
            refine pn_iload (q := 35) dX7_partAt_33 rfl rfl ?_
            refine pn_lald5 (q := 36) dX7_partAt_35 rfl rfl rfl (by omega) (by omega) ?_
            refine pn_lload_n (q := 37) dX7_partAt_36 rfl rfl ?_
            refine pn_ldc2 (q := 40) pw_1283 dX7_partAt_37 rfl ?_
            refine pn_lxor (q := 41) dX7_partAt_40 rfl ?_
            refine pn_land (q := 42) dX7_partAt_41 rfl ?_
            refine pn_lconst (q := 43) (v := lN 0) dX7_partAt_42 rfl (by decide) ?_
            refine pn_leq (q1 := 44) (q := 47) (tgt := 50) dX7_partAt_43 rfl dX7_partAt_44 (by decide) rfl (fun hc43 => ?_) (fun hc43 => ?_)
            · refine pn_iload (q := 52) dX7_partAt_50 rfl rfl ?_
              refine pn_iload_n (q := 53) dX7_partAt_52 rfl rfl ?_
              refine pn_icmp_ne (q := 56) (tgt := 64) dX7_partAt_53 (by decide) rfl (fun hc53 => ?_) (fun hc53 => ?_)
              · first | refine pn_iinc1 (q := 67) dX7_partAt_64 rfl rfl (by decide) ?_ | refine pn_iinc (q := 67) (mm := 1) dX7_partAt_64 rfl rfl (by decide) (by decide) ?_
                first | refine pn_iinc1 (q := 70) dX7_partAt_67 rfl rfl (by decide) ?_ | refine pn_iinc (q := 70) (mm := 1) dX7_partAt_67 rfl rfl (by decide) (by decide) ?_
                refine pn_goto (q := 20) dX7_partAt_70 (by decide) ?_
                exact k9
              · exact (q2 hc53).elim
            · exact (hc43 q1).elim
      · rw [if_neg q1] at e7
        have k9 := ih (i + 1) n (by omega) (by omega) e7.symm
        refine pn_iload (q := 22) dX7_partAt_20 rfl rfl ?_
        refine pn_aload_n (q := 23) dX7_partAt_22 rfl rfl rfl ?_
        refine pn_get (q := 26) fX7_241 dX7_partAt_23 rfl rfl rfl ?_
        first | refine pn_nge (q := 29) (tgt := 73) dX7_partAt_26 (by decide) rfl (by omega) (by omega) (fun hc26 => ?_) (fun hc26 => ?_) | refine pn_icmp_ge (q := 29) (tgt := 73) dX7_partAt_26 (by decide) rfl (fun hc26 => ?_) (fun hc26 => ?_)
        · omega
        · refine pn_aload_n (q := 30) dX7_partAt_29 rfl rfl rfl ?_
          refine pn_get (q := 33) fX7_41 dX7_partAt_30 rfl rfl rfl ?_
          refine pn_iload (q := 35) dX7_partAt_33 rfl rfl ?_
          refine pn_lald5 (q := 36) dX7_partAt_35 rfl rfl rfl (by omega) (by omega) ?_
          refine pn_lload_n (q := 37) dX7_partAt_36 rfl rfl ?_
          refine pn_ldc2 (q := 40) pw_1283 dX7_partAt_37 rfl ?_
          refine pn_lxor (q := 41) dX7_partAt_40 rfl ?_
          refine pn_land (q := 42) dX7_partAt_41 rfl ?_
          refine pn_lconst (q := 43) (v := lN 0) dX7_partAt_42 rfl (by decide) ?_
          refine pn_leq (q1 := 44) (q := 47) (tgt := 50) dX7_partAt_43 rfl dX7_partAt_44 (by decide) rfl (fun hc43 => ?_) (fun hc43 => ?_)
          · exact (q1 hc43).elim
          · refine pn_goto (q := 67) dX7_partAt_47 (by decide) ?_
            first | refine pn_iinc1 (q := 70) dX7_partAt_67 rfl rfl (by decide) ?_ | refine pn_iinc (q := 70) (mm := 1) dX7_partAt_67 rfl rfl (by decide) (by decide) ?_
            refine pn_goto (q := 20) dX7_partAt_70 (by decide) ?_
            exact k9
  refine pn_aload_n (q := 1) dX7_partAt_0 rfl rfl rfl ?_
  refine pn_iconst (q := 2) (v := nI 0) dX7_partAt_1 rfl (by decide) ?_
  (refine pn_put (q := 5) fX7_63 dX7_partAt_2 rfl rfl (Nat.le_of_ble_eq_true rfl) (pnF_int _) ?_)
  refine pn_eq (h' := (hM Y P (0, a.2) b c e f g h)) (st' := _) rfl rfl ?_
  refine pn_aload_n (q := 6) dX7_partAt_5 rfl rfl rfl ?_
  refine pn_idV (q := 9) (bc9 := 0) (bs9 := 0) (CL) lkX7_265 dX7_partAt_6 rfl rfl (hM_cl) (hM_cl) (Nat.le_of_ble_eq_true rfl) rfl rfl rfl rfl rfl rfl (by omega) (by omega) (by omega) (Nat.le_of_ble_eq_true rfl) ?_
  refine pn_aload_n (q := 10) dX7_partAt_9 rfl rfl rfl ?_
  refine pn_idV (q := 13) (bc9 := 0) (bs9 := 0) (CF) lkX7_225 dX7_partAt_10 rfl rfl (hM_cl) (hM_cl) (Nat.le_of_ble_eq_true rfl) rfl rfl rfl rfl rfl rfl (by omega) (by omega) (by omega) (Nat.le_of_ble_eq_true rfl) ?_
  refine pn_lstore_n (q := 14) dX7_partAt_13 rfl (by decide) ?_
  refine pn_iconst (q := 15) (v := nI 0) dX7_partAt_14 rfl (by decide) ?_
  refine pn_istore (q := 17) dX7_partAt_15 rfl (by decide) ?_
  refine pn_iconst (q := 18) (v := nI 0) dX7_partAt_17 rfl (by decide) ?_
  refine pn_istore (q := 20) dX7_partAt_18 rfl (by decide) ?_
  exact loop e1.2.2.2.2.2.2.2.2 0 0 (by omega) (by omega) hR
