theorem bitI_eq (g : Int64) {l : Nat} (hl : l < 64) : bitI g l = nI (btL g l).toNat := by
  unfold bitI
  rw [← lN_uN ((g.toUInt64 >>> ((nI l).toInt64.toUInt64 &&& Int64.toUInt64 63)).toInt64 &&& 1), uN_and, uN_sk g hl, show uN (1 : Int64) = 2 ^ 1 - 1 from rfl, Nat.and_two_pow_sub_one_eq_mod, lN_i]
  have : uN g / 2 ^ l % 2 ^ 1 = (btL g l).toNat := by rw [Nat.pow_one]; exact btN_btL g l
  rw [this]
theorem and_bL (x : Int64) {l : Nat} (hl : l < 64) : x &&& bL l = 0 ↔ btL x l = false := by
  constructor
  · intro h
    have := congrArg (fun z => btL z l) h
    rw [btL_and, btL_bL hl, btL_0] at this
    simpa using this
  · intro h
    apply btL_ext
    intro k hk
    rw [btL_and, btL_bL hl, btL_0]
    by_cases e : l = k
    · subst e; rw [h]; rfl
    · rw [decide_eq_false e, Bool.and_false]
/-! line -/
set_option maxRecDepth 100000 in
theorem m_lineXa (adK : Nat → Nat) (d : Nat) (Y : MN) (P : Nat → MN) (a : G0) (b : G1) (c : G3) (e : G4) (f : G5) (g : G6) (h : G7) (x y w : Int32) (hn : Y.1 ≤ 11) (hn1 : 1 ≤ Y.1) (hx : ¬ (hasN Y.1 x = true ∧ hasN Y.1 y = true)) : pnCt mX7_line adK (d + 2) 0 0 [.ref 0, .int x, .int y, .int w] (hM Y P a b c e f g h) (pnIs (.inl (some (.int (nI 0)))) (hM Y P (bdA (0, a.2) 1 0) b c e f g h)) := by
  refine pnCt_of (by decide) kX7_line (Nat.le_of_ble_eq_true rfl) rfl hM_cl (pnCS_b rfl) ?_
  have Cx := m_isNode adK d Y P (0, a.2) b c e f g h x hn hn1
  have Cy := m_isNode adK d Y P (0, a.2) b c e f g h y hn hn1
  cases h1 : hasN Y.1 x with
  | false =>
    rw [h1] at Cx
    refine pn_aload_n (q := 1) dX7_line_0 rfl rfl rfl ?_
    refine pn_iconst (q := 2) (v := nI 0) dX7_line_1 rfl (by decide) ?_
    (refine pn_put (q := 5) fX7_63 dX7_line_2 rfl rfl (Nat.le_of_ble_eq_true rfl) (pnF_int _) ?_)
    refine pn_eq (h' := (hM Y P (0, a.2) b c e f g h)) (st' := _) rfl rfl ?_
    refine pn_aload_n (q := 6) dX7_line_5 rfl rfl rfl ?_
    refine pn_aload_n (q := 7) dX7_line_6 rfl rfl rfl ?_
    refine pn_iload_n (q := 8) dX7_line_7 rfl rfl ?_
    refine pn_idV (q := 11) (bc9 := 0) (bs9 := 0) (Cx) lkX7_333 dX7_line_8 rfl rfl (hM_cl) (hM_cl) (Nat.le_of_ble_eq_true rfl) rfl rfl rfl rfl rfl rfl (by omega) (by omega) (by omega) (Nat.le_of_ble_eq_true rfl) ?_
    refine pn_beq (q := 14) (tgt := 22) dX7_line_11 (by decide) rfl (fun hc11 => ?_) (fun hc11 => ?_)
    · refine pn_iconst (q := 23) (v := nB true) dX7_line_22 rfl (by decide) ?_
      refine pn_goto (q := 27) dX7_line_23 (by decide) ?_
      refine pn_iconst (q := 28) (v := nI 1) dX7_line_27 rfl (by decide) ?_
      refine pn_iconst (q := 29) (v := nI 0) dX7_line_28 rfl (by decide) ?_
      refine pn_idV (q := 32) (bc9 := 0) (bs9 := 0) (m_badT adK d Y P (0, a.2) b c e f g h 1 0 rfl (by omega) (by omega) (by omega)) lkX7_206 dX7_line_29 rfl rfl (hM_cl) (hM_cl) (Nat.le_of_ble_eq_true rfl) rfl rfl rfl rfl rfl rfl (by omega) (by omega) (by omega) (Nat.le_of_ble_eq_true rfl) ?_
      refine pn_bne (q := 35) (tgt := 66) dX7_line_32 (by decide) rfl (fun hc32 => ?_) (fun hc32 => ?_)
      · refine pn_iconst (q := 67) (v := nI 0) dX7_line_66 rfl (by decide) ?_
        refine pn_iret dX7_line_67 rfl ?_
        exact ⟨rfl, rfl⟩
      · cases hc32
    · cases hc11
  | true =>
    have h2 : hasN Y.1 y = false := by
      cases h3 : hasN Y.1 y with
      | false => rfl
      | true => exact (hx ⟨h1, h3⟩).elim
    rw [h1] at Cx
    rw [h2] at Cy
    refine pn_aload_n (q := 1) dX7_line_0 rfl rfl rfl ?_
    refine pn_iconst (q := 2) (v := nI 0) dX7_line_1 rfl (by decide) ?_
    (refine pn_put (q := 5) fX7_63 dX7_line_2 rfl rfl (Nat.le_of_ble_eq_true rfl) (pnF_int _) ?_)
    refine pn_eq (h' := (hM Y P (0, a.2) b c e f g h)) (st' := _) rfl rfl ?_
    refine pn_aload_n (q := 6) dX7_line_5 rfl rfl rfl ?_
    refine pn_aload_n (q := 7) dX7_line_6 rfl rfl rfl ?_
    refine pn_iload_n (q := 8) dX7_line_7 rfl rfl ?_
    refine pn_idV (q := 11) (bc9 := 0) (bs9 := 0) (Cx) lkX7_333 dX7_line_8 rfl rfl (hM_cl) (hM_cl) (Nat.le_of_ble_eq_true rfl) rfl rfl rfl rfl rfl rfl (by omega) (by omega) (by omega) (Nat.le_of_ble_eq_true rfl) ?_
    refine pn_beq (q := 14) (tgt := 22) dX7_line_11 (by decide) rfl (fun hc11 => ?_) (fun hc11 => ?_)
    · cases hc11
    · refine pn_aload_n (q := 15) dX7_line_14 rfl rfl rfl ?_
      refine pn_iload_n (q := 16) dX7_line_15 rfl rfl ?_
      refine pn_idV (q := 19) (bc9 := 0) (bs9 := 0) (Cy) lkX7_333 dX7_line_16 rfl rfl (hM_cl) (hM_cl) (Nat.le_of_ble_eq_true rfl) rfl rfl rfl rfl rfl rfl (by omega) (by omega) (by omega) (Nat.le_of_ble_eq_true rfl) ?_
      refine pn_bne (q := 22) (tgt := 26) dX7_line_19 (by decide) rfl (fun hc19 => ?_) (fun hc19 => ?_)
      · cases hc19
      · refine pn_iconst (q := 23) (v := nB true) dX7_line_22 rfl (by decide) ?_
        refine pn_goto (q := 27) dX7_line_23 (by decide) ?_
        refine pn_iconst (q := 28) (v := nI 1) dX7_line_27 rfl (by decide) ?_
        refine pn_iconst (q := 29) (v := nI 0) dX7_line_28 rfl (by decide) ?_
        refine pn_idV (q := 32) (bc9 := 0) (bs9 := 0) (m_badT adK d Y P (0, a.2) b c e f g h 1 0 rfl (by omega) (by omega) (by omega)) lkX7_206 dX7_line_29 rfl rfl (hM_cl) (hM_cl) (Nat.le_of_ble_eq_true rfl) rfl rfl rfl rfl rfl rfl (by omega) (by omega) (by omega) (Nat.le_of_ble_eq_true rfl) ?_
        refine pn_bne (q := 35) (tgt := 66) dX7_line_32 (by decide) rfl (fun hc32 => ?_) (fun hc32 => ?_)
        · refine pn_iconst (q := 67) (v := nI 0) dX7_line_66 rfl (by decide) ?_
          refine pn_iret dX7_line_67 rfl ?_
          exact ⟨rfl, rfl⟩
        · cases hc32
set_option maxRecDepth 100000 in
theorem m_lineXb (adK : Nat → Nat) (d : Nat) (Y : MN) (P : Nat → MN) (a : G0) (b : G1) (c : G3) (e : G4) (f : G5) (g : G6) (h : G7) (x y w : Int32) (hn : Y.1 ≤ 11) (hn1 : 1 ≤ Y.1) (hx : hasN Y.1 x = true) (hy : hasN Y.1 y = true) (hw : x = y ∨ hasN 3 w = false) : pnCt mX7_line adK (d + 2) 0 0 [.ref 0, .int x, .int y, .int w] (hM Y P a b c e f g h) (pnIs (.inl (some (.int (nI 0)))) (hM Y P (bdA (0, a.2) 2 1) b c e f g h)) := by
  refine pnCt_of (by decide) kX7_line (Nat.le_of_ble_eq_true rfl) rfl hM_cl (pnCS_b rfl) ?_
  have Cx := m_isNode adK d Y P (0, a.2) b c e f g h x hn hn1
  have Cy := m_isNode adK d Y P (0, a.2) b c e f g h y hn hn1
  rw [hx] at Cx
  rw [hy] at Cy
  have C0 := m_in adK d w.toInt64 (lN 0) (lN 2)
  rw [inL_has (by omega)] at C0
  by_cases e0 : x = y
  · refine pn_aload_n (q := 1) dX7_line_0 rfl rfl rfl ?_
    refine pn_iconst (q := 2) (v := nI 0) dX7_line_1 rfl (by decide) ?_
    (refine pn_put (q := 5) fX7_63 dX7_line_2 rfl rfl (Nat.le_of_ble_eq_true rfl) (pnF_int _) ?_)
    refine pn_eq (h' := (hM Y P (0, a.2) b c e f g h)) (st' := _) rfl rfl ?_
    refine pn_aload_n (q := 6) dX7_line_5 rfl rfl rfl ?_
    refine pn_aload_n (q := 7) dX7_line_6 rfl rfl rfl ?_
    refine pn_iload_n (q := 8) dX7_line_7 rfl rfl ?_
    refine pn_idV (q := 11) (bc9 := 0) (bs9 := 0) (Cx) lkX7_333 dX7_line_8 rfl rfl (hM_cl) (hM_cl) (Nat.le_of_ble_eq_true rfl) rfl rfl rfl rfl rfl rfl (by omega) (by omega) (by omega) (Nat.le_of_ble_eq_true rfl) ?_
    refine pn_beq (q := 14) (tgt := 22) dX7_line_11 (by decide) rfl (fun hc11 => ?_) (fun hc11 => ?_)
    · cases hc11
    · refine pn_aload_n (q := 15) dX7_line_14 rfl rfl rfl ?_
      refine pn_iload_n (q := 16) dX7_line_15 rfl rfl ?_
      refine pn_idV (q := 19) (bc9 := 0) (bs9 := 0) (Cy) lkX7_333 dX7_line_16 rfl rfl (hM_cl) (hM_cl) (Nat.le_of_ble_eq_true rfl) rfl rfl rfl rfl rfl rfl (by omega) (by omega) (by omega) (Nat.le_of_ble_eq_true rfl) ?_
      refine pn_bne (q := 22) (tgt := 26) dX7_line_19 (by decide) rfl (fun hc19 => ?_) (fun hc19 => ?_)
      · refine pn_iconst (q := 27) (v := nB false) dX7_line_26 rfl (by decide) ?_
        refine pn_iconst (q := 28) (v := nI 1) dX7_line_27 rfl (by decide) ?_
        refine pn_iconst (q := 29) (v := nI 0) dX7_line_28 rfl (by decide) ?_
        refine pn_idV (q := 32) (bc9 := 0) (bs9 := 0) (m_badF adK d Y P (0, a.2) b c e f g h 1 0 rfl) lkX7_206 dX7_line_29 rfl rfl (hM_cl) (hM_cl) (Nat.le_of_ble_eq_true rfl) rfl rfl rfl rfl rfl rfl (by omega) (by omega) (by omega) (Nat.le_of_ble_eq_true rfl) ?_
        refine pn_bne (q := 35) (tgt := 66) dX7_line_32 (by decide) rfl (fun hc32 => ?_) (fun hc32 => ?_)
        · cases hc32
        · refine pn_aload_n (q := 36) dX7_line_35 rfl rfl rfl ?_
          refine pn_iload_n (q := 37) dX7_line_36 rfl rfl ?_
          refine pn_iload_n (q := 38) dX7_line_37 rfl rfl ?_
          refine pn_icmp_eq (q := 41) (tgt := 53) dX7_line_38 (by decide) rfl (fun hc38 => ?_) (fun hc38 => ?_)
          · refine pn_iconst (q := 54) (v := nB true) dX7_line_53 rfl (by decide) ?_
            refine pn_goto (q := 58) dX7_line_54 (by decide) ?_
            refine pn_iconst (q := 59) (v := nI 2) dX7_line_58 rfl (by decide) ?_
            refine pn_iconst (q := 60) (v := nI 1) dX7_line_59 rfl (by decide) ?_
            refine pn_idV (q := 63) (bc9 := 0) (bs9 := 0) (m_badT adK d Y P (0, a.2) b c e f g h 2 1 rfl (by omega) (by omega) (by omega)) lkX7_206 dX7_line_60 rfl rfl (hM_cl) (hM_cl) (Nat.le_of_ble_eq_true rfl) rfl rfl rfl rfl rfl rfl (by omega) (by omega) (by omega) (Nat.le_of_ble_eq_true rfl) ?_
            refine pn_beq (q := 66) (tgt := 68) dX7_line_63 (by decide) rfl (fun hc63 => ?_) (fun hc63 => ?_)
            · cases hc63
            · refine pn_iconst (q := 67) (v := nI 0) dX7_line_66 rfl (by decide) ?_
              refine pn_iret dX7_line_67 rfl ?_
              exact ⟨rfl, rfl⟩
          · exact (hc38 e0).elim
      · cases hc19
  · have hw2 : hasN 3 w = false := by rcases hw with q | q; exact (e0 q).elim; exact q
    rw [hw2] at C0
    refine pn_aload_n (q := 1) dX7_line_0 rfl rfl rfl ?_
    refine pn_iconst (q := 2) (v := nI 0) dX7_line_1 rfl (by decide) ?_
    (refine pn_put (q := 5) fX7_63 dX7_line_2 rfl rfl (Nat.le_of_ble_eq_true rfl) (pnF_int _) ?_)
    refine pn_eq (h' := (hM Y P (0, a.2) b c e f g h)) (st' := _) rfl rfl ?_
    refine pn_aload_n (q := 6) dX7_line_5 rfl rfl rfl ?_
    refine pn_aload_n (q := 7) dX7_line_6 rfl rfl rfl ?_
    refine pn_iload_n (q := 8) dX7_line_7 rfl rfl ?_
    refine pn_idV (q := 11) (bc9 := 0) (bs9 := 0) (Cx) lkX7_333 dX7_line_8 rfl rfl (hM_cl) (hM_cl) (Nat.le_of_ble_eq_true rfl) rfl rfl rfl rfl rfl rfl (by omega) (by omega) (by omega) (Nat.le_of_ble_eq_true rfl) ?_
    refine pn_beq (q := 14) (tgt := 22) dX7_line_11 (by decide) rfl (fun hc11 => ?_) (fun hc11 => ?_)
    · cases hc11
    · refine pn_aload_n (q := 15) dX7_line_14 rfl rfl rfl ?_
      refine pn_iload_n (q := 16) dX7_line_15 rfl rfl ?_
      refine pn_idV (q := 19) (bc9 := 0) (bs9 := 0) (Cy) lkX7_333 dX7_line_16 rfl rfl (hM_cl) (hM_cl) (Nat.le_of_ble_eq_true rfl) rfl rfl rfl rfl rfl rfl (by omega) (by omega) (by omega) (Nat.le_of_ble_eq_true rfl) ?_
      refine pn_bne (q := 22) (tgt := 26) dX7_line_19 (by decide) rfl (fun hc19 => ?_) (fun hc19 => ?_)
      · refine pn_iconst (q := 27) (v := nB false) dX7_line_26 rfl (by decide) ?_
        refine pn_iconst (q := 28) (v := nI 1) dX7_line_27 rfl (by decide) ?_
        refine pn_iconst (q := 29) (v := nI 0) dX7_line_28 rfl (by decide) ?_
        refine pn_idV (q := 32) (bc9 := 0) (bs9 := 0) (m_badF adK d Y P (0, a.2) b c e f g h 1 0 rfl) lkX7_206 dX7_line_29 rfl rfl (hM_cl) (hM_cl) (Nat.le_of_ble_eq_true rfl) rfl rfl rfl rfl rfl rfl (by omega) (by omega) (by omega) (Nat.le_of_ble_eq_true rfl) ?_
        refine pn_bne (q := 35) (tgt := 66) dX7_line_32 (by decide) rfl (fun hc32 => ?_) (fun hc32 => ?_)
        · cases hc32
        · refine pn_aload_n (q := 36) dX7_line_35 rfl rfl rfl ?_
          refine pn_iload_n (q := 37) dX7_line_36 rfl rfl ?_
          refine pn_iload_n (q := 38) dX7_line_37 rfl rfl ?_
          refine pn_icmp_eq (q := 41) (tgt := 53) dX7_line_38 (by decide) rfl (fun hc38 => ?_) (fun hc38 => ?_)
          · exact (e0 hc38).elim
          · refine pn_iload_n (q := 42) dX7_line_41 rfl rfl ?_
            refine pn_i2l (q := 43) dX7_line_42 rfl ?_
            refine pn_lconst (q := 44) (v := lN 0) dX7_line_43 rfl (by decide) ?_
            refine pn_ldc2 (q := 47) pw_1258 dX7_line_44 rfl ?_; refine pn_eq (h' := _) (st' := .long (lN 2) :: _) rfl rfl ?_
            refine pn_roS1 (q := 50) (C0) lkX7_92 dX7_line_47 rfl rfl (pnSel_of (I := []) rfl rfl) (pnFree_none rfl) rfl (by omega) (Nat.le_of_ble_eq_true rfl) rfl ?_
            refine pn_bne (q := 53) (tgt := 57) dX7_line_50 (by decide) rfl (fun hc50 => ?_) (fun hc50 => ?_)
            · cases hc50
            · refine pn_iconst (q := 54) (v := nB true) dX7_line_53 rfl (by decide) ?_
              refine pn_goto (q := 58) dX7_line_54 (by decide) ?_
              refine pn_iconst (q := 59) (v := nI 2) dX7_line_58 rfl (by decide) ?_
              refine pn_iconst (q := 60) (v := nI 1) dX7_line_59 rfl (by decide) ?_
              refine pn_idV (q := 63) (bc9 := 0) (bs9 := 0) (m_badT adK d Y P (0, a.2) b c e f g h 2 1 rfl (by omega) (by omega) (by omega)) lkX7_206 dX7_line_60 rfl rfl (hM_cl) (hM_cl) (Nat.le_of_ble_eq_true rfl) rfl rfl rfl rfl rfl rfl (by omega) (by omega) (by omega) (Nat.le_of_ble_eq_true rfl) ?_
              refine pn_beq (q := 66) (tgt := 68) dX7_line_63 (by decide) rfl (fun hc63 => ?_) (fun hc63 => ?_)
              · cases hc63
              · refine pn_iconst (q := 67) (v := nI 0) dX7_line_66 rfl (by decide) ?_
                refine pn_iret dX7_line_67 rfl ?_
                exact ⟨rfl, rfl⟩
      · cases hc19
set_option maxRecDepth 100000 in
theorem m_line0 (adK : Nat → Nat) (d : Nat) (Y : MN) (P : Nat → MN) (a : G0) (b : G1) (c : G3) (e : G4) (f : G5) (g : G6) (h : G7) (i j : Nat) (hn : Y.1 ≤ 11) (hpc : Y.2.2.2.2.1 ≤ 60) (hi : i < Y.1) (hj : j < Y.1) (hij : i ≠ j) : pnCt mX7_line adK (d + 2) 0 0 [.ref 0, .int (nI i), .int (nI j), .int (nI 0)] (hM Y P a b c e f g h) (pnIs (.inl (some (.int (nI (lnN Y.1 i j))))) (hM Y P (0, a.2) b c e f g h)) := by
  refine pnCt_of (by decide) kX7_line (Nat.le_of_ble_eq_true rfl) rfl hM_cl (pnCS_b rfl) ?_
  have Cx := m_isNode adK d Y P (0, a.2) b c e f g h (nI i) hn (by omega)
  have Cy := m_isNode adK d Y P (0, a.2) b c e f g h (nI j) hn (by omega)
  rw [hasN_in hi (by omega)] at Cx
  rw [hasN_in hj (by omega)] at Cy
  have C0 := m_in adK d (nI 0).toInt64 (lN 0) (lN 2)
  rw [inL_has (by omega), hasN_in (by omega) (by omega)] at C0
  have hl := ln_55 hn hi hj hij
  have CL := m_lineOf adK d Y.1 i j hn hi hj hij
  generalize lnN Y.1 i j = l at *
  have loop : ∀ (z p : Nat), p + z = Y.2.2.2.2.1 → pwN Y.2.2.2.2.2.2.1 (bL l) p z = pwN Y.2.2.2.2.2.2.1 (bL l) 0 Y.2.2.2.2.1 → pnWP mX7_line adK (d + 2) (pnIs (.inl (some (.int (pwN Y.2.2.2.2.2.2.1 (bL l) 0 Y.2.2.2.2.1)))) (hM Y P (0, a.2) b c e f g h)) 0 0 (hM Y P (0, a.2) b c e f g h) [some (.ref 0), some (.int (nI i)), some (.int (nI j)), some (.int (nI 0)), some (.int (nI l)), some (.int (nI p))] [] 113 := by
    intro z
    induction z with
    | zero =>
      intro p hz e9
      refine pn_iload (q := 115) dX7_line_113 rfl rfl ?_
      refine pn_aload_n (q := 116) dX7_line_115 rfl rfl rfl ?_
      refine pn_idV (q := 119) (bc9 := 0) (bs9 := 0) (m_many adK d Y P (0, a.2) b c e f g h) lkX7_232 dX7_line_116 rfl rfl (hM_cl) (hM_cl) (Nat.le_of_ble_eq_true rfl) rfl rfl rfl rfl rfl rfl (by omega) (by omega) (by omega) (Nat.le_of_ble_eq_true rfl) ?_
      first | refine pn_nge (q := 122) (tgt := 151) dX7_line_119 (by decide) rfl (by omega) (by omega) (fun hc119 => ?_) (fun hc119 => ?_) | refine pn_icmp_ge (q := 122) (tgt := 151) dX7_line_119 (by decide) rfl (fun hc119 => ?_) (fun hc119 => ?_)
      · refine pn_iconst (q := 152) (v := (-1)) dX7_line_151 rfl (by decide) ?_
        refine pn_iret dX7_line_152 rfl ?_
        exact ⟨by rw [← e9]; rfl, rfl⟩
      · omega
    | succ z ih =>
      intro p hz e9
      have e2 : pwN Y.2.2.2.2.2.2.1 (bL l) p (z + 1) = (if Y.2.2.2.2.2.2.1 p &&& bL l = 0 then pwN Y.2.2.2.2.2.2.1 (bL l) (p + 1) z else nI p) := rfl
      rw [e2] at e9
      refine pn_iload (q := 115) dX7_line_113 rfl rfl ?_
      refine pn_aload_n (q := 116) dX7_line_115 rfl rfl rfl ?_
      refine pn_idV (q := 119) (bc9 := 0) (bs9 := 0) (m_many adK d Y P (0, a.2) b c e f g h) lkX7_232 dX7_line_116 rfl rfl (hM_cl) (hM_cl) (Nat.le_of_ble_eq_true rfl) rfl rfl rfl rfl rfl rfl (by omega) (by omega) (by omega) (Nat.le_of_ble_eq_true rfl) ?_
      first | refine pn_nge (q := 122) (tgt := 151) dX7_line_119 (by decide) rfl (by omega) (by omega) (fun hc119 => ?_) (fun hc119 => ?_) | refine pn_icmp_ge (q := 122) (tgt := 151) dX7_line_119 (by decide) rfl (fun hc119 => ?_) (fun hc119 => ?_)
      · omega
      · refine pn_aload_n (q := 123) dX7_line_122 rfl rfl rfl ?_
        refine pn_get (q := 126) fX7_20 dX7_line_123 rfl rfl rfl ?_
        refine pn_bipush (q := 128) (v := nI 30) dX7_line_126 rfl (by decide) ?_
        refine pn_iload (q := 130) dX7_line_128 rfl rfl ?_
        first | with_reducible refine pn_iaddN (q := 131) dX7_line_130 rfl ?_ | refine pn_iadd (q := 131) dX7_line_130 rfl ?_
        refine pn_lald1 (q := 132) dX7_line_131 rfl rfl rfl (by omega) (by decide) ?_; rw [nowF_p]
        refine pn_iload (q := 134) dX7_line_132 rfl rfl ?_
        refine pn_lshr (q := 135) dX7_line_134 rfl ?_
        refine pn_lconst (q := 136) (v := lN 1) dX7_line_135 rfl (by decide) ?_
        refine pn_land (q := 137) dX7_line_136 rfl ?_; rw [show (Y.2.2.2.2.2.2.1 p >>> ((nI l).toInt64 &&& 63)) &&& lN 1 = lN (btL (Y.2.2.2.2.2.2.1 p) l).toNat from biL_eq _ (by omega)]
        refine pn_lconst (q := 138) (v := lN 1) dX7_line_137 rfl (by decide) ?_
        refine pn_lne (q1 := 139) (q := 142) (tgt := 145) dX7_line_138 rfl dX7_line_139 (by decide) rfl (fun hc138 => ?_) (fun hc138 => ?_)
        · first | refine pn_iinc1 (q := 148) dX7_line_145 rfl rfl (by decide) ?_ | refine pn_iinc (q := 148) (mm := 1) dX7_line_145 rfl rfl (by decide) (by decide) ?_
          refine pn_goto (q := 113) dX7_line_148 (by decide) ?_
          exact ih (p + 1) (by omega) (by rw [if_pos ((and_bL _ (by omega)).mpr (by cases h9 : btL (Y.2.2.2.2.2.2.1 p) l with | false => rfl | true => exact (hc138 (by rw [h9]; rfl)).elim))] at e9; exact e9)
        · refine pn_iload (q := 144) dX7_line_142 rfl rfl ?_
          refine pn_iret dX7_line_144 rfl ?_
          (have q9 : btL (Y.2.2.2.2.2.2.1 p) l = true := by (cases h9 : btL (Y.2.2.2.2.2.2.1 p) l with | true => rfl | false => exact ((by rw [h9]; decide : ¬ lN (btL (Y.2.2.2.2.2.2.1 p) l).toNat = lN 1) (by first | exact hc138 | exact Decidable.not_not.mp hc138)).elim)); exact ⟨by rw [← e9, if_neg (by rw [and_bL _ (by omega), q9]; exact fun q => Bool.noConfusion q)], rfl⟩
  refine pn_aload_n (q := 1) dX7_line_0 rfl rfl rfl ?_
  refine pn_iconst (q := 2) (v := nI 0) dX7_line_1 rfl (by decide) ?_
  (refine pn_put (q := 5) fX7_63 dX7_line_2 rfl rfl (Nat.le_of_ble_eq_true rfl) (pnF_int _) ?_)
  refine pn_eq (h' := (hM Y P (0, a.2) b c e f g h)) (st' := _) rfl rfl ?_
  refine pn_aload_n (q := 6) dX7_line_5 rfl rfl rfl ?_
  refine pn_aload_n (q := 7) dX7_line_6 rfl rfl rfl ?_
  refine pn_iload_n (q := 8) dX7_line_7 rfl rfl ?_
  refine pn_idV (q := 11) (bc9 := 0) (bs9 := 0) (Cx) lkX7_333 dX7_line_8 rfl rfl (hM_cl) (hM_cl) (Nat.le_of_ble_eq_true rfl) rfl rfl rfl rfl rfl rfl (by omega) (by omega) (by omega) (Nat.le_of_ble_eq_true rfl) ?_
  refine pn_beq (q := 14) (tgt := 22) dX7_line_11 (by decide) rfl (fun hc11 => ?_) (fun hc11 => ?_)
  · cases hc11
  · refine pn_aload_n (q := 15) dX7_line_14 rfl rfl rfl ?_
    refine pn_iload_n (q := 16) dX7_line_15 rfl rfl ?_
    refine pn_idV (q := 19) (bc9 := 0) (bs9 := 0) (Cy) lkX7_333 dX7_line_16 rfl rfl (hM_cl) (hM_cl) (Nat.le_of_ble_eq_true rfl) rfl rfl rfl rfl rfl rfl (by omega) (by omega) (by omega) (Nat.le_of_ble_eq_true rfl) ?_
    refine pn_bne (q := 22) (tgt := 26) dX7_line_19 (by decide) rfl (fun hc19 => ?_) (fun hc19 => ?_)
    · refine pn_iconst (q := 27) (v := nB false) dX7_line_26 rfl (by decide) ?_
      refine pn_iconst (q := 28) (v := nI 1) dX7_line_27 rfl (by decide) ?_
      refine pn_iconst (q := 29) (v := nI 0) dX7_line_28 rfl (by decide) ?_
      refine pn_idV (q := 32) (bc9 := 0) (bs9 := 0) (m_badF adK d Y P (0, a.2) b c e f g h 1 0 rfl) lkX7_206 dX7_line_29 rfl rfl (hM_cl) (hM_cl) (Nat.le_of_ble_eq_true rfl) rfl rfl rfl rfl rfl rfl (by omega) (by omega) (by omega) (Nat.le_of_ble_eq_true rfl) ?_
      refine pn_bne (q := 35) (tgt := 66) dX7_line_32 (by decide) rfl (fun hc32 => ?_) (fun hc32 => ?_)
      · cases hc32
      · refine pn_aload_n (q := 36) dX7_line_35 rfl rfl rfl ?_
        refine pn_iload_n (q := 37) dX7_line_36 rfl rfl ?_
        refine pn_iload_n (q := 38) dX7_line_37 rfl rfl ?_
        first | refine pn_neq (q := 41) (tgt := 53) dX7_line_38 (by decide) rfl (by omega) (by omega) (fun hc38 => ?_) (fun hc38 => ?_) | refine pn_icmp_eq (q := 41) (tgt := 53) dX7_line_38 (by decide) rfl (fun hc38 => ?_) (fun hc38 => ?_)
        · omega
        · refine pn_iload_n (q := 42) dX7_line_41 rfl rfl ?_
          refine pn_i2l (q := 43) dX7_line_42 rfl ?_
          refine pn_lconst (q := 44) (v := lN 0) dX7_line_43 rfl (by decide) ?_
          refine pn_ldc2 (q := 47) pw_1258 dX7_line_44 rfl ?_; refine pn_eq (h' := _) (st' := .long (lN 2) :: _) rfl rfl ?_
          refine pn_roS1 (q := 50) (C0) lkX7_92 dX7_line_47 rfl rfl (pnSel_of (I := []) rfl rfl) (pnFree_none rfl) rfl (by omega) (Nat.le_of_ble_eq_true rfl) rfl ?_
          refine pn_bne (q := 53) (tgt := 57) dX7_line_50 (by decide) rfl (fun hc50 => ?_) (fun hc50 => ?_)
          · refine pn_iconst (q := 58) (v := nB false) dX7_line_57 rfl (by decide) ?_
            refine pn_iconst (q := 59) (v := nI 2) dX7_line_58 rfl (by decide) ?_
            refine pn_iconst (q := 60) (v := nI 1) dX7_line_59 rfl (by decide) ?_
            refine pn_idV (q := 63) (bc9 := 0) (bs9 := 0) (m_badF adK d Y P (0, a.2) b c e f g h 2 1 rfl) lkX7_206 dX7_line_60 rfl rfl (hM_cl) (hM_cl) (Nat.le_of_ble_eq_true rfl) rfl rfl rfl rfl rfl rfl (by omega) (by omega) (by omega) (Nat.le_of_ble_eq_true rfl) ?_
            refine pn_beq (q := 66) (tgt := 68) dX7_line_63 (by decide) rfl (fun hc63 => ?_) (fun hc63 => ?_)
            · refine pn_aload_n (q := 69) dX7_line_68 rfl rfl rfl ?_
              refine pn_get (q := 72) fX7_20 dX7_line_69 rfl rfl rfl ?_
              refine pn_iconst (q := 73) (v := nI 0) dX7_line_72 rfl (by decide) ?_
              (first | refine pn_lald1 (q := 74) dX7_line_73 rfl rfl rfl (by omega) (by first | decide | omega) ?_ | refine pn_lald5 (q := 74) dX7_line_73 rfl rfl rfl (by omega) (by first | decide | omega) ?_); refine pn_eq (h' := _) (st' := .long (lN Y.1) :: _) rfl rfl ?_
              first | with_reducible refine pn_l2iN (q := 75) dX7_line_74 rfl ?_ | refine pn_l2i (q := 75) dX7_line_74 rfl ?_
              refine pn_iload_n (q := 76) dX7_line_75 rfl rfl ?_
              refine pn_iload_n (q := 77) dX7_line_76 rfl rfl ?_
              refine pn_roS1 (q := 80) (CL) lkX7_96 dX7_line_77 rfl rfl (pnSel_of (I := []) rfl rfl) (pnFree_none rfl) rfl (by omega) (Nat.le_of_ble_eq_true rfl) rfl ?_
              refine pn_istore (q := 82) dX7_line_80 rfl (by decide) ?_
              refine pn_iload_n (q := 83) dX7_line_82 rfl rfl ?_
              refine pn_iconst (q := 84) (v := nI 2) dX7_line_83 rfl (by decide) ?_
              first | refine pn_nge (q := 87) (tgt := 110) dX7_line_84 (by decide) rfl (by omega) (by omega) (fun hc84 => ?_) (fun hc84 => ?_) | refine pn_icmp_ge (q := 87) (tgt := 110) dX7_line_84 (by decide) rfl (fun hc84 => ?_) (fun hc84 => ?_)
              · omega
              · refine pn_iload_n (q := 88) dX7_line_87 rfl rfl ?_
                first | refine pn_zne (q := 91) (tgt := 96) dX7_line_88 (by decide) rfl (by omega) (fun hc88 => ?_) (fun hc88 => ?_) | refine pn_if_ne (q := 91) (tgt := 96) dX7_line_88 (by decide) rfl (fun hc88 => ?_) (fun hc88 => ?_)
                · omega
                · refine pn_iload (q := 93) dX7_line_91 rfl rfl ?_
                  refine pn_goto (q := 109) dX7_line_93 (by decide) ?_
                  refine pn_iret dX7_line_109 rfl ?_
                  first | exact ⟨rfl, rfl⟩ | exact ⟨by rw [bitI_eq _ (by omega)], rfl⟩
            · cases hc63
          · cases hc50
    · cases hc19
set_option maxRecDepth 100000 in
theorem m_line1 (adK : Nat → Nat) (d : Nat) (Y : MN) (P : Nat → MN) (a : G0) (b : G1) (c : G3) (e : G4) (f : G5) (g : G6) (h : G7) (i j : Nat) (hn : Y.1 ≤ 11) (hpc : Y.2.2.2.2.1 ≤ 60) (hi : i < Y.1) (hj : j < Y.1) (hij : i ≠ j) : pnCt mX7_line adK (d + 2) 0 0 [.ref 0, .int (nI i), .int (nI j), .int (nI 1)] (hM Y P a b c e f g h) (pnIs (.inl (some (.int (bitI Y.2.1 (lnN Y.1 i j))))) (hM Y P (0, a.2) b c e f g h)) := by
  refine pnCt_of (by decide) kX7_line (Nat.le_of_ble_eq_true rfl) rfl hM_cl (pnCS_b rfl) ?_
  have Cx := m_isNode adK d Y P (0, a.2) b c e f g h (nI i) hn (by omega)
  have Cy := m_isNode adK d Y P (0, a.2) b c e f g h (nI j) hn (by omega)
  rw [hasN_in hi (by omega)] at Cx
  rw [hasN_in hj (by omega)] at Cy
  have C0 := m_in adK d (nI 1).toInt64 (lN 0) (lN 2)
  rw [inL_has (by omega), hasN_in (by omega) (by omega)] at C0
  have hl := ln_55 hn hi hj hij
  have CL := m_lineOf adK d Y.1 i j hn hi hj hij
  generalize lnN Y.1 i j = l at *
  have loop : ∀ (z p : Nat), p + z = Y.2.2.2.2.1 → pwN Y.2.2.2.2.2.2.1 (bL l) p z = pwN Y.2.2.2.2.2.2.1 (bL l) 0 Y.2.2.2.2.1 → pnWP mX7_line adK (d + 2) (pnIs (.inl (some (.int (pwN Y.2.2.2.2.2.2.1 (bL l) 0 Y.2.2.2.2.1)))) (hM Y P (0, a.2) b c e f g h)) 0 0 (hM Y P (0, a.2) b c e f g h) [some (.ref 0), some (.int (nI i)), some (.int (nI j)), some (.int (nI 1)), some (.int (nI l)), some (.int (nI p))] [] 113 := by
    intro z
    induction z with
    | zero =>
      intro p hz e9
      refine pn_iload (q := 115) dX7_line_113 rfl rfl ?_
      refine pn_aload_n (q := 116) dX7_line_115 rfl rfl rfl ?_
      refine pn_idV (q := 119) (bc9 := 0) (bs9 := 0) (m_many adK d Y P (0, a.2) b c e f g h) lkX7_232 dX7_line_116 rfl rfl (hM_cl) (hM_cl) (Nat.le_of_ble_eq_true rfl) rfl rfl rfl rfl rfl rfl (by omega) (by omega) (by omega) (Nat.le_of_ble_eq_true rfl) ?_
      first | refine pn_nge (q := 122) (tgt := 151) dX7_line_119 (by decide) rfl (by omega) (by omega) (fun hc119 => ?_) (fun hc119 => ?_) | refine pn_icmp_ge (q := 122) (tgt := 151) dX7_line_119 (by decide) rfl (fun hc119 => ?_) (fun hc119 => ?_)
      · refine pn_iconst (q := 152) (v := (-1)) dX7_line_151 rfl (by decide) ?_
        refine pn_iret dX7_line_152 rfl ?_
        exact ⟨by rw [← e9]; rfl, rfl⟩
      · omega
    | succ z ih =>
      intro p hz e9
      have e2 : pwN Y.2.2.2.2.2.2.1 (bL l) p (z + 1) = (if Y.2.2.2.2.2.2.1 p &&& bL l = 0 then pwN Y.2.2.2.2.2.2.1 (bL l) (p + 1) z else nI p) := rfl
      rw [e2] at e9
      refine pn_iload (q := 115) dX7_line_113 rfl rfl ?_
      refine pn_aload_n (q := 116) dX7_line_115 rfl rfl rfl ?_
      refine pn_idV (q := 119) (bc9 := 0) (bs9 := 0) (m_many adK d Y P (0, a.2) b c e f g h) lkX7_232 dX7_line_116 rfl rfl (hM_cl) (hM_cl) (Nat.le_of_ble_eq_true rfl) rfl rfl rfl rfl rfl rfl (by omega) (by omega) (by omega) (Nat.le_of_ble_eq_true rfl) ?_
      first | refine pn_nge (q := 122) (tgt := 151) dX7_line_119 (by decide) rfl (by omega) (by omega) (fun hc119 => ?_) (fun hc119 => ?_) | refine pn_icmp_ge (q := 122) (tgt := 151) dX7_line_119 (by decide) rfl (fun hc119 => ?_) (fun hc119 => ?_)
      · omega
      · refine pn_aload_n (q := 123) dX7_line_122 rfl rfl rfl ?_
        refine pn_get (q := 126) fX7_20 dX7_line_123 rfl rfl rfl ?_
        refine pn_bipush (q := 128) (v := nI 30) dX7_line_126 rfl (by decide) ?_
        refine pn_iload (q := 130) dX7_line_128 rfl rfl ?_
        first | with_reducible refine pn_iaddN (q := 131) dX7_line_130 rfl ?_ | refine pn_iadd (q := 131) dX7_line_130 rfl ?_
        refine pn_lald1 (q := 132) dX7_line_131 rfl rfl rfl (by omega) (by decide) ?_; rw [nowF_p]
        refine pn_iload (q := 134) dX7_line_132 rfl rfl ?_
        refine pn_lshr (q := 135) dX7_line_134 rfl ?_
        refine pn_lconst (q := 136) (v := lN 1) dX7_line_135 rfl (by decide) ?_
        refine pn_land (q := 137) dX7_line_136 rfl ?_; rw [show (Y.2.2.2.2.2.2.1 p >>> ((nI l).toInt64 &&& 63)) &&& lN 1 = lN (btL (Y.2.2.2.2.2.2.1 p) l).toNat from biL_eq _ (by omega)]
        refine pn_lconst (q := 138) (v := lN 1) dX7_line_137 rfl (by decide) ?_
        refine pn_lne (q1 := 139) (q := 142) (tgt := 145) dX7_line_138 rfl dX7_line_139 (by decide) rfl (fun hc138 => ?_) (fun hc138 => ?_)
        · first | refine pn_iinc1 (q := 148) dX7_line_145 rfl rfl (by decide) ?_ | refine pn_iinc (q := 148) (mm := 1) dX7_line_145 rfl rfl (by decide) (by decide) ?_
          refine pn_goto (q := 113) dX7_line_148 (by decide) ?_
          exact ih (p + 1) (by omega) (by rw [if_pos ((and_bL _ (by omega)).mpr (by cases h9 : btL (Y.2.2.2.2.2.2.1 p) l with | false => rfl | true => exact (hc138 (by rw [h9]; rfl)).elim))] at e9; exact e9)
        · refine pn_iload (q := 144) dX7_line_142 rfl rfl ?_
          refine pn_iret dX7_line_144 rfl ?_
          (have q9 : btL (Y.2.2.2.2.2.2.1 p) l = true := by (cases h9 : btL (Y.2.2.2.2.2.2.1 p) l with | true => rfl | false => exact ((by rw [h9]; decide : ¬ lN (btL (Y.2.2.2.2.2.2.1 p) l).toNat = lN 1) (by first | exact hc138 | exact Decidable.not_not.mp hc138)).elim)); exact ⟨by rw [← e9, if_neg (by rw [and_bL _ (by omega), q9]; exact fun q => Bool.noConfusion q)], rfl⟩
  refine pn_aload_n (q := 1) dX7_line_0 rfl rfl rfl ?_
  refine pn_iconst (q := 2) (v := nI 0) dX7_line_1 rfl (by decide) ?_
  (refine pn_put (q := 5) fX7_63 dX7_line_2 rfl rfl (Nat.le_of_ble_eq_true rfl) (pnF_int _) ?_)
  refine pn_eq (h' := (hM Y P (0, a.2) b c e f g h)) (st' := _) rfl rfl ?_
  refine pn_aload_n (q := 6) dX7_line_5 rfl rfl rfl ?_
  refine pn_aload_n (q := 7) dX7_line_6 rfl rfl rfl ?_
  refine pn_iload_n (q := 8) dX7_line_7 rfl rfl ?_
  refine pn_idV (q := 11) (bc9 := 0) (bs9 := 0) (Cx) lkX7_333 dX7_line_8 rfl rfl (hM_cl) (hM_cl) (Nat.le_of_ble_eq_true rfl) rfl rfl rfl rfl rfl rfl (by omega) (by omega) (by omega) (Nat.le_of_ble_eq_true rfl) ?_
  refine pn_beq (q := 14) (tgt := 22) dX7_line_11 (by decide) rfl (fun hc11 => ?_) (fun hc11 => ?_)
  · cases hc11
  · refine pn_aload_n (q := 15) dX7_line_14 rfl rfl rfl ?_
    refine pn_iload_n (q := 16) dX7_line_15 rfl rfl ?_
    refine pn_idV (q := 19) (bc9 := 0) (bs9 := 0) (Cy) lkX7_333 dX7_line_16 rfl rfl (hM_cl) (hM_cl) (Nat.le_of_ble_eq_true rfl) rfl rfl rfl rfl rfl rfl (by omega) (by omega) (by omega) (Nat.le_of_ble_eq_true rfl) ?_
    refine pn_bne (q := 22) (tgt := 26) dX7_line_19 (by decide) rfl (fun hc19 => ?_) (fun hc19 => ?_)
    · refine pn_iconst (q := 27) (v := nB false) dX7_line_26 rfl (by decide) ?_
      refine pn_iconst (q := 28) (v := nI 1) dX7_line_27 rfl (by decide) ?_
      refine pn_iconst (q := 29) (v := nI 0) dX7_line_28 rfl (by decide) ?_
      refine pn_idV (q := 32) (bc9 := 0) (bs9 := 0) (m_badF adK d Y P (0, a.2) b c e f g h 1 0 rfl) lkX7_206 dX7_line_29 rfl rfl (hM_cl) (hM_cl) (Nat.le_of_ble_eq_true rfl) rfl rfl rfl rfl rfl rfl (by omega) (by omega) (by omega) (Nat.le_of_ble_eq_true rfl) ?_
      refine pn_bne (q := 35) (tgt := 66) dX7_line_32 (by decide) rfl (fun hc32 => ?_) (fun hc32 => ?_)
      · cases hc32
      · refine pn_aload_n (q := 36) dX7_line_35 rfl rfl rfl ?_
        refine pn_iload_n (q := 37) dX7_line_36 rfl rfl ?_
        refine pn_iload_n (q := 38) dX7_line_37 rfl rfl ?_
        first | refine pn_neq (q := 41) (tgt := 53) dX7_line_38 (by decide) rfl (by omega) (by omega) (fun hc38 => ?_) (fun hc38 => ?_) | refine pn_icmp_eq (q := 41) (tgt := 53) dX7_line_38 (by decide) rfl (fun hc38 => ?_) (fun hc38 => ?_)
        · omega
        · refine pn_iload_n (q := 42) dX7_line_41 rfl rfl ?_
          refine pn_i2l (q := 43) dX7_line_42 rfl ?_
          refine pn_lconst (q := 44) (v := lN 0) dX7_line_43 rfl (by decide) ?_
          refine pn_ldc2 (q := 47) pw_1258 dX7_line_44 rfl ?_; refine pn_eq (h' := _) (st' := .long (lN 2) :: _) rfl rfl ?_
          refine pn_roS1 (q := 50) (C0) lkX7_92 dX7_line_47 rfl rfl (pnSel_of (I := []) rfl rfl) (pnFree_none rfl) rfl (by omega) (Nat.le_of_ble_eq_true rfl) rfl ?_
          refine pn_bne (q := 53) (tgt := 57) dX7_line_50 (by decide) rfl (fun hc50 => ?_) (fun hc50 => ?_)
          · refine pn_iconst (q := 58) (v := nB false) dX7_line_57 rfl (by decide) ?_
            refine pn_iconst (q := 59) (v := nI 2) dX7_line_58 rfl (by decide) ?_
            refine pn_iconst (q := 60) (v := nI 1) dX7_line_59 rfl (by decide) ?_
            refine pn_idV (q := 63) (bc9 := 0) (bs9 := 0) (m_badF adK d Y P (0, a.2) b c e f g h 2 1 rfl) lkX7_206 dX7_line_60 rfl rfl (hM_cl) (hM_cl) (Nat.le_of_ble_eq_true rfl) rfl rfl rfl rfl rfl rfl (by omega) (by omega) (by omega) (Nat.le_of_ble_eq_true rfl) ?_
            refine pn_beq (q := 66) (tgt := 68) dX7_line_63 (by decide) rfl (fun hc63 => ?_) (fun hc63 => ?_)
            · refine pn_aload_n (q := 69) dX7_line_68 rfl rfl rfl ?_
              refine pn_get (q := 72) fX7_20 dX7_line_69 rfl rfl rfl ?_
              refine pn_iconst (q := 73) (v := nI 0) dX7_line_72 rfl (by decide) ?_
              (first | refine pn_lald1 (q := 74) dX7_line_73 rfl rfl rfl (by omega) (by first | decide | omega) ?_ | refine pn_lald5 (q := 74) dX7_line_73 rfl rfl rfl (by omega) (by first | decide | omega) ?_); refine pn_eq (h' := _) (st' := .long (lN Y.1) :: _) rfl rfl ?_
              first | with_reducible refine pn_l2iN (q := 75) dX7_line_74 rfl ?_ | refine pn_l2i (q := 75) dX7_line_74 rfl ?_
              refine pn_iload_n (q := 76) dX7_line_75 rfl rfl ?_
              refine pn_iload_n (q := 77) dX7_line_76 rfl rfl ?_
              refine pn_roS1 (q := 80) (CL) lkX7_96 dX7_line_77 rfl rfl (pnSel_of (I := []) rfl rfl) (pnFree_none rfl) rfl (by omega) (Nat.le_of_ble_eq_true rfl) rfl ?_
              refine pn_istore (q := 82) dX7_line_80 rfl (by decide) ?_
              refine pn_iload_n (q := 83) dX7_line_82 rfl rfl ?_
              refine pn_iconst (q := 84) (v := nI 2) dX7_line_83 rfl (by decide) ?_
              first | refine pn_nge (q := 87) (tgt := 110) dX7_line_84 (by decide) rfl (by omega) (by omega) (fun hc84 => ?_) (fun hc84 => ?_) | refine pn_icmp_ge (q := 87) (tgt := 110) dX7_line_84 (by decide) rfl (fun hc84 => ?_) (fun hc84 => ?_)
              · omega
              · refine pn_iload_n (q := 88) dX7_line_87 rfl rfl ?_
                first | refine pn_zne (q := 91) (tgt := 96) dX7_line_88 (by decide) rfl (by omega) (fun hc88 => ?_) (fun hc88 => ?_) | refine pn_if_ne (q := 91) (tgt := 96) dX7_line_88 (by decide) rfl (fun hc88 => ?_) (fun hc88 => ?_)
                · refine pn_aload_n (q := 97) dX7_line_96 rfl rfl rfl ?_
                  refine pn_get (q := 100) fX7_20 dX7_line_97 rfl rfl rfl ?_
                  refine pn_bipush (q := 102) (v := nI 29) dX7_line_100 rfl (by decide) ?_
                  (first | refine pn_lald1 (q := 103) dX7_line_102 rfl rfl rfl (by omega) (by first | decide | omega) ?_ | refine pn_lald5 (q := 103) dX7_line_102 rfl rfl rfl (by omega) (by first | decide | omega) ?_); refine pn_eq (h' := _) (st' := .long (Y.2.1) :: _) rfl rfl ?_
                  refine pn_iload (q := 105) dX7_line_103 rfl rfl ?_
                  refine pn_lshr (q := 106) dX7_line_105 rfl ?_
                  refine pn_lconst (q := 107) (v := lN 1) dX7_line_106 rfl (by decide) ?_
                  refine pn_land (q := 108) dX7_line_107 rfl ?_; rw [show (Y.2.1 >>> ((nI l).toInt64 &&& 63)) &&& lN 1 = lN (btL Y.2.1 l).toNat from biL_eq _ (by omega)]
                  first | with_reducible refine pn_l2iN (q := 109) dX7_line_108 rfl ?_ | refine pn_l2i (q := 109) dX7_line_108 rfl ?_
                  refine pn_iret dX7_line_109 rfl ?_
                  first | exact ⟨rfl, rfl⟩ | exact ⟨by rw [bitI_eq _ (by omega)], rfl⟩
                · omega
            · cases hc63
          · cases hc50
    · cases hc19
set_option maxRecDepth 100000 in
theorem m_line2 (adK : Nat → Nat) (d : Nat) (Y : MN) (P : Nat → MN) (a : G0) (b : G1) (c : G3) (e : G4) (f : G5) (g : G6) (h : G7) (i j : Nat) (hn : Y.1 ≤ 11) (hpc : Y.2.2.2.2.1 ≤ 60) (hi : i < Y.1) (hj : j < Y.1) (hij : i ≠ j) : pnCt mX7_line adK (d + 2) 0 0 [.ref 0, .int (nI i), .int (nI j), .int (nI 2)] (hM Y P a b c e f g h) (pnIs (.inl (some (.int (pwN Y.2.2.2.2.2.2.1 (bL (lnN Y.1 i j)) 0 Y.2.2.2.2.1)))) (hM Y P (0, a.2) b c e f g h)) := by
  refine pnCt_of (by decide) kX7_line (Nat.le_of_ble_eq_true rfl) rfl hM_cl (pnCS_b rfl) ?_
  have Cx := m_isNode adK d Y P (0, a.2) b c e f g h (nI i) hn (by omega)
  have Cy := m_isNode adK d Y P (0, a.2) b c e f g h (nI j) hn (by omega)
  rw [hasN_in hi (by omega)] at Cx
  rw [hasN_in hj (by omega)] at Cy
  have C0 := m_in adK d (nI 2).toInt64 (lN 0) (lN 2)
  rw [inL_has (by omega), hasN_in (by omega) (by omega)] at C0
  have hl := ln_55 hn hi hj hij
  have CL := m_lineOf adK d Y.1 i j hn hi hj hij
  generalize lnN Y.1 i j = l at *
  have loop : ∀ (z p : Nat), p + z = Y.2.2.2.2.1 → pwN Y.2.2.2.2.2.2.1 (bL l) p z = pwN Y.2.2.2.2.2.2.1 (bL l) 0 Y.2.2.2.2.1 → pnWP mX7_line adK (d + 2) (pnIs (.inl (some (.int (pwN Y.2.2.2.2.2.2.1 (bL l) 0 Y.2.2.2.2.1)))) (hM Y P (0, a.2) b c e f g h)) 0 0 (hM Y P (0, a.2) b c e f g h) [some (.ref 0), some (.int (nI i)), some (.int (nI j)), some (.int (nI 2)), some (.int (nI l)), some (.int (nI p))] [] 113 := by
    intro z
    induction z with
    | zero =>
      intro p hz e9
      refine pn_iload (q := 115) dX7_line_113 rfl rfl ?_
      refine pn_aload_n (q := 116) dX7_line_115 rfl rfl rfl ?_
      refine pn_idV (q := 119) (bc9 := 0) (bs9 := 0) (m_many adK d Y P (0, a.2) b c e f g h) lkX7_232 dX7_line_116 rfl rfl (hM_cl) (hM_cl) (Nat.le_of_ble_eq_true rfl) rfl rfl rfl rfl rfl rfl (by omega) (by omega) (by omega) (Nat.le_of_ble_eq_true rfl) ?_
      first | refine pn_nge (q := 122) (tgt := 151) dX7_line_119 (by decide) rfl (by omega) (by omega) (fun hc119 => ?_) (fun hc119 => ?_) | refine pn_icmp_ge (q := 122) (tgt := 151) dX7_line_119 (by decide) rfl (fun hc119 => ?_) (fun hc119 => ?_)
      · refine pn_iconst (q := 152) (v := (-1)) dX7_line_151 rfl (by decide) ?_
        refine pn_iret dX7_line_152 rfl ?_
        exact ⟨by rw [← e9]; rfl, rfl⟩
      · omega
    | succ z ih =>
      intro p hz e9
      have e2 : pwN Y.2.2.2.2.2.2.1 (bL l) p (z + 1) = (if Y.2.2.2.2.2.2.1 p &&& bL l = 0 then pwN Y.2.2.2.2.2.2.1 (bL l) (p + 1) z else nI p) := rfl
      rw [e2] at e9
      refine pn_iload (q := 115) dX7_line_113 rfl rfl ?_
      refine pn_aload_n (q := 116) dX7_line_115 rfl rfl rfl ?_
      refine pn_idV (q := 119) (bc9 := 0) (bs9 := 0) (m_many adK d Y P (0, a.2) b c e f g h) lkX7_232 dX7_line_116 rfl rfl (hM_cl) (hM_cl) (Nat.le_of_ble_eq_true rfl) rfl rfl rfl rfl rfl rfl (by omega) (by omega) (by omega) (Nat.le_of_ble_eq_true rfl) ?_
      first | refine pn_nge (q := 122) (tgt := 151) dX7_line_119 (by decide) rfl (by omega) (by omega) (fun hc119 => ?_) (fun hc119 => ?_) | refine pn_icmp_ge (q := 122) (tgt := 151) dX7_line_119 (by decide) rfl (fun hc119 => ?_) (fun hc119 => ?_)
      · omega
      · refine pn_aload_n (q := 123) dX7_line_122 rfl rfl rfl ?_
        refine pn_get (q := 126) fX7_20 dX7_line_123 rfl rfl rfl ?_
        refine pn_bipush (q := 128) (v := nI 30) dX7_line_126 rfl (by decide) ?_
        refine pn_iload (q := 130) dX7_line_128 rfl rfl ?_
        first | with_reducible refine pn_iaddN (q := 131) dX7_line_130 rfl ?_ | refine pn_iadd (q := 131) dX7_line_130 rfl ?_
        refine pn_lald1 (q := 132) dX7_line_131 rfl rfl rfl (by omega) (by decide) ?_; rw [nowF_p]
        refine pn_iload (q := 134) dX7_line_132 rfl rfl ?_
        refine pn_lshr (q := 135) dX7_line_134 rfl ?_
        refine pn_lconst (q := 136) (v := lN 1) dX7_line_135 rfl (by decide) ?_
        refine pn_land (q := 137) dX7_line_136 rfl ?_; rw [show (Y.2.2.2.2.2.2.1 p >>> ((nI l).toInt64 &&& 63)) &&& lN 1 = lN (btL (Y.2.2.2.2.2.2.1 p) l).toNat from biL_eq _ (by omega)]
        refine pn_lconst (q := 138) (v := lN 1) dX7_line_137 rfl (by decide) ?_
        refine pn_lne (q1 := 139) (q := 142) (tgt := 145) dX7_line_138 rfl dX7_line_139 (by decide) rfl (fun hc138 => ?_) (fun hc138 => ?_)
        · first | refine pn_iinc1 (q := 148) dX7_line_145 rfl rfl (by decide) ?_ | refine pn_iinc (q := 148) (mm := 1) dX7_line_145 rfl rfl (by decide) (by decide) ?_
          refine pn_goto (q := 113) dX7_line_148 (by decide) ?_
          exact ih (p + 1) (by omega) (by rw [if_pos ((and_bL _ (by omega)).mpr (by cases h9 : btL (Y.2.2.2.2.2.2.1 p) l with | false => rfl | true => exact (hc138 (by rw [h9]; rfl)).elim))] at e9; exact e9)
        · refine pn_iload (q := 144) dX7_line_142 rfl rfl ?_
          refine pn_iret dX7_line_144 rfl ?_
          (have q9 : btL (Y.2.2.2.2.2.2.1 p) l = true := by (cases h9 : btL (Y.2.2.2.2.2.2.1 p) l with | true => rfl | false => exact ((by rw [h9]; decide : ¬ lN (btL (Y.2.2.2.2.2.2.1 p) l).toNat = lN 1) (by first | exact hc138 | exact Decidable.not_not.mp hc138)).elim)); exact ⟨by rw [← e9, if_neg (by rw [and_bL _ (by omega), q9]; exact fun q => Bool.noConfusion q)], rfl⟩
  refine pn_aload_n (q := 1) dX7_line_0 rfl rfl rfl ?_
  refine pn_iconst (q := 2) (v := nI 0) dX7_line_1 rfl (by decide) ?_
  (refine pn_put (q := 5) fX7_63 dX7_line_2 rfl rfl (Nat.le_of_ble_eq_true rfl) (pnF_int _) ?_)
  refine pn_eq (h' := (hM Y P (0, a.2) b c e f g h)) (st' := _) rfl rfl ?_
  refine pn_aload_n (q := 6) dX7_line_5 rfl rfl rfl ?_
  refine pn_aload_n (q := 7) dX7_line_6 rfl rfl rfl ?_
  refine pn_iload_n (q := 8) dX7_line_7 rfl rfl ?_
  refine pn_idV (q := 11) (bc9 := 0) (bs9 := 0) (Cx) lkX7_333 dX7_line_8 rfl rfl (hM_cl) (hM_cl) (Nat.le_of_ble_eq_true rfl) rfl rfl rfl rfl rfl rfl (by omega) (by omega) (by omega) (Nat.le_of_ble_eq_true rfl) ?_
  refine pn_beq (q := 14) (tgt := 22) dX7_line_11 (by decide) rfl (fun hc11 => ?_) (fun hc11 => ?_)
  · cases hc11
  · refine pn_aload_n (q := 15) dX7_line_14 rfl rfl rfl ?_
    refine pn_iload_n (q := 16) dX7_line_15 rfl rfl ?_
    refine pn_idV (q := 19) (bc9 := 0) (bs9 := 0) (Cy) lkX7_333 dX7_line_16 rfl rfl (hM_cl) (hM_cl) (Nat.le_of_ble_eq_true rfl) rfl rfl rfl rfl rfl rfl (by omega) (by omega) (by omega) (Nat.le_of_ble_eq_true rfl) ?_
    refine pn_bne (q := 22) (tgt := 26) dX7_line_19 (by decide) rfl (fun hc19 => ?_) (fun hc19 => ?_)
    · refine pn_iconst (q := 27) (v := nB false) dX7_line_26 rfl (by decide) ?_
      refine pn_iconst (q := 28) (v := nI 1) dX7_line_27 rfl (by decide) ?_
      refine pn_iconst (q := 29) (v := nI 0) dX7_line_28 rfl (by decide) ?_
      refine pn_idV (q := 32) (bc9 := 0) (bs9 := 0) (m_badF adK d Y P (0, a.2) b c e f g h 1 0 rfl) lkX7_206 dX7_line_29 rfl rfl (hM_cl) (hM_cl) (Nat.le_of_ble_eq_true rfl) rfl rfl rfl rfl rfl rfl (by omega) (by omega) (by omega) (Nat.le_of_ble_eq_true rfl) ?_
      refine pn_bne (q := 35) (tgt := 66) dX7_line_32 (by decide) rfl (fun hc32 => ?_) (fun hc32 => ?_)
      · cases hc32
      · refine pn_aload_n (q := 36) dX7_line_35 rfl rfl rfl ?_
        refine pn_iload_n (q := 37) dX7_line_36 rfl rfl ?_
        refine pn_iload_n (q := 38) dX7_line_37 rfl rfl ?_
        first | refine pn_neq (q := 41) (tgt := 53) dX7_line_38 (by decide) rfl (by omega) (by omega) (fun hc38 => ?_) (fun hc38 => ?_) | refine pn_icmp_eq (q := 41) (tgt := 53) dX7_line_38 (by decide) rfl (fun hc38 => ?_) (fun hc38 => ?_)
        · omega
        · refine pn_iload_n (q := 42) dX7_line_41 rfl rfl ?_
          refine pn_i2l (q := 43) dX7_line_42 rfl ?_
          refine pn_lconst (q := 44) (v := lN 0) dX7_line_43 rfl (by decide) ?_
          refine pn_ldc2 (q := 47) pw_1258 dX7_line_44 rfl ?_; refine pn_eq (h' := _) (st' := .long (lN 2) :: _) rfl rfl ?_
          refine pn_roS1 (q := 50) (C0) lkX7_92 dX7_line_47 rfl rfl (pnSel_of (I := []) rfl rfl) (pnFree_none rfl) rfl (by omega) (Nat.le_of_ble_eq_true rfl) rfl ?_
          refine pn_bne (q := 53) (tgt := 57) dX7_line_50 (by decide) rfl (fun hc50 => ?_) (fun hc50 => ?_)
          · refine pn_iconst (q := 58) (v := nB false) dX7_line_57 rfl (by decide) ?_
            refine pn_iconst (q := 59) (v := nI 2) dX7_line_58 rfl (by decide) ?_
            refine pn_iconst (q := 60) (v := nI 1) dX7_line_59 rfl (by decide) ?_
            refine pn_idV (q := 63) (bc9 := 0) (bs9 := 0) (m_badF adK d Y P (0, a.2) b c e f g h 2 1 rfl) lkX7_206 dX7_line_60 rfl rfl (hM_cl) (hM_cl) (Nat.le_of_ble_eq_true rfl) rfl rfl rfl rfl rfl rfl (by omega) (by omega) (by omega) (Nat.le_of_ble_eq_true rfl) ?_
            refine pn_beq (q := 66) (tgt := 68) dX7_line_63 (by decide) rfl (fun hc63 => ?_) (fun hc63 => ?_)
            · refine pn_aload_n (q := 69) dX7_line_68 rfl rfl rfl ?_
              refine pn_get (q := 72) fX7_20 dX7_line_69 rfl rfl rfl ?_
              refine pn_iconst (q := 73) (v := nI 0) dX7_line_72 rfl (by decide) ?_
              (first | refine pn_lald1 (q := 74) dX7_line_73 rfl rfl rfl (by omega) (by first | decide | omega) ?_ | refine pn_lald5 (q := 74) dX7_line_73 rfl rfl rfl (by omega) (by first | decide | omega) ?_); refine pn_eq (h' := _) (st' := .long (lN Y.1) :: _) rfl rfl ?_
              first | with_reducible refine pn_l2iN (q := 75) dX7_line_74 rfl ?_ | refine pn_l2i (q := 75) dX7_line_74 rfl ?_
              refine pn_iload_n (q := 76) dX7_line_75 rfl rfl ?_
              refine pn_iload_n (q := 77) dX7_line_76 rfl rfl ?_
              refine pn_roS1 (q := 80) (CL) lkX7_96 dX7_line_77 rfl rfl (pnSel_of (I := []) rfl rfl) (pnFree_none rfl) rfl (by omega) (Nat.le_of_ble_eq_true rfl) rfl ?_
              refine pn_istore (q := 82) dX7_line_80 rfl (by decide) ?_
              refine pn_iload_n (q := 83) dX7_line_82 rfl rfl ?_
              refine pn_iconst (q := 84) (v := nI 2) dX7_line_83 rfl (by decide) ?_
              first | refine pn_nge (q := 87) (tgt := 110) dX7_line_84 (by decide) rfl (by omega) (by omega) (fun hc84 => ?_) (fun hc84 => ?_) | refine pn_icmp_ge (q := 87) (tgt := 110) dX7_line_84 (by decide) rfl (fun hc84 => ?_) (fun hc84 => ?_)
              · refine pn_iconst (q := 111) (v := nI 0) dX7_line_110 rfl (by decide) ?_
                refine pn_istore (q := 113) dX7_line_111 rfl (by decide) ?_
                exact loop Y.2.2.2.2.1 0 (by omega) rfl
              · omega
            · cases hc63
          · cases hc50
    · cases hc19
