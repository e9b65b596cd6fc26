set_option maxRecDepth 100000 in
theorem c_min (adK : Nat → Nat) (d a b : Nat) (ha : a < 2 ^ 31) (hb : b < 2 ^ 31) : pnCt mJ9_min_7cf53 adK d 0 0 [.int (nI a), .int (nI b)] [] (pnIs (.inl (some (.int (nI (min a b))))) []) := by
  refine pnCt_ofF (by decide +kernel) kJ9_min_7cf53 (Nat.le_of_ble_eq_true rfl) rfl (pnCH_b rfl) (pnCS_b rfl) ?_
  refine pn_iload_n (q := 1) dJ9_min_7cf53_0 rfl rfl ?_
  refine pn_iload_n (q := 2) dJ9_min_7cf53_1 rfl rfl ?_
  first | refine pn_ngt (q := 5) (tgt := 9) dJ9_min_7cf53_2 (by decide) rfl (by omega) (by omega) (fun hc2 => ?_) (fun hc2 => ?_) | refine pn_icmp_gt (q := 5) (tgt := 9) dJ9_min_7cf53_2 (by decide) rfl (fun hc2 => ?_) (fun hc2 => ?_)
  · refine pn_iload_n (q := 10) dJ9_min_7cf53_9 rfl rfl ?_
    refine pn_iret dJ9_min_7cf53_10 rfl ?_
    exact ⟨by rw [Nat.min_def]; split <;> first | rfl | (rw [show a = b by omega]) | omega, rfl⟩
  · refine pn_iload_n (q := 6) dJ9_min_7cf53_5 rfl rfl ?_
    refine pn_goto (q := 10) dJ9_min_7cf53_6 (by decide) ?_
    refine pn_iret dJ9_min_7cf53_10 rfl ?_
    exact ⟨by rw [Nat.min_def]; split <;> first | rfl | (rw [show a = b by omega]) | omega, rfl⟩
set_option maxRecDepth 100000 in
theorem c_max (adK : Nat → Nat) (d a b : Nat) (ha : a < 2 ^ 31) (hb : b < 2 ^ 31) : pnCt mJ9_max_7cf53 adK d 0 0 [.int (nI a), .int (nI b)] [] (pnIs (.inl (some (.int (nI (max a b))))) []) := by
  refine pnCt_ofF (by decide +kernel) kJ9_max_7cf53 (Nat.le_of_ble_eq_true rfl) rfl (pnCH_b rfl) (pnCS_b rfl) ?_
  refine pn_iload_n (q := 1) dJ9_max_7cf53_0 rfl rfl ?_
  refine pn_iload_n (q := 2) dJ9_max_7cf53_1 rfl rfl ?_
  first | refine pn_nlt (q := 5) (tgt := 9) dJ9_max_7cf53_2 (by decide) rfl (by omega) (by omega) (fun hc2 => ?_) (fun hc2 => ?_) | refine pn_icmp_lt (q := 5) (tgt := 9) dJ9_max_7cf53_2 (by decide) rfl (fun hc2 => ?_) (fun hc2 => ?_)
  · refine pn_iload_n (q := 10) dJ9_max_7cf53_9 rfl rfl ?_
    refine pn_iret dJ9_max_7cf53_10 rfl ?_
    exact ⟨by rw [Nat.max_def]; split <;> first | rfl | (rw [show a = b by omega]) | omega, rfl⟩
  · refine pn_iload_n (q := 6) dJ9_max_7cf53_5 rfl rfl ?_
    refine pn_goto (q := 10) dJ9_max_7cf53_6 (by decide) ?_
    refine pn_iret dJ9_max_7cf53_10 rfl ?_
    exact ⟨by rw [Nat.max_def]; split <;> first | rfl | (rw [show a = b by omega]) | omega, rfl⟩
set_option maxRecDepth 100000 in
theorem c_lineNumber (adK : Nat → Nat) (d : Nat) (n : Nat) (g : Int64) (sh k pc bc : Nat) (ps : Nat → Int64) (bs sf : Nat → Int32) (a b : Nat) (hn : n ≤ 11) (ha : a < n) (hb : b < n) (hab : a ≠ b) : pnCt mX2_lineNumber adK (d + 1) 0 0 [.ref 0, .int (nI a), .int (nI b)] (hNet n g sh k pc bc ps bs sf) (pnIs (.inl (some (.int (nI (lnN n a b))))) (hNet n g sh k pc bc ps bs sf)) := by
  refine pnCt_of (by decide) kX2_lineNumber (Nat.le_of_ble_eq_true rfl) rfl (hNet_cl _ _ _ _ _ _ _ _ _) (pnCS_b rfl) ?_
  have h1 : min a b < 11 := by omega
  have h2 : min a b * (min a b + 1) ≤ 10 * 11 := Nat.mul_le_mul (by omega) (by omega)
  have h3 : min a b * (min a b + 1) / 2 ≤ min a b * n := by
    have : min a b * (min a b + 1) ≤ min a b * n := Nat.mul_le_mul_left _ (by omega)
    omega
  have h4 : min a b < max a b := by omega
  refine pn_iload_n (q := 1) dX2_lineNumber_0 rfl rfl ?_
  refine pn_iload_n (q := 2) dX2_lineNumber_1 rfl rfl ?_
  refine pn_roS1 (q := 5) (c_min adK d a b (by omega) (by omega)) lkX2_52 dX2_lineNumber_2 rfl rfl (pnSel_of (I := []) rfl rfl) (pnFree_none rfl) rfl (by omega) (Nat.le_of_ble_eq_true rfl) rfl ?_
  refine pn_istore_n (q := 6) dX2_lineNumber_5 rfl (by decide) ?_
  refine pn_iload_n (q := 7) dX2_lineNumber_6 rfl rfl ?_
  refine pn_iload_n (q := 8) dX2_lineNumber_7 rfl rfl ?_
  refine pn_roS1 (q := 11) (c_max adK d a b (by omega) (by omega)) lkX2_58 dX2_lineNumber_8 rfl rfl (pnSel_of (I := []) rfl rfl) (pnFree_none rfl) rfl (by omega) (Nat.le_of_ble_eq_true rfl) rfl ?_
  refine pn_istore (q := 13) dX2_lineNumber_11 rfl (by decide) ?_
  refine pn_iload_n (q := 14) dX2_lineNumber_13 rfl rfl ?_
  refine pn_aload_n (q := 15) dX2_lineNumber_14 rfl rfl rfl ?_
  refine pn_get (q := 18) fX2_9 dX2_lineNumber_15 rfl rfl rfl ?_
  first | with_reducible refine pn_imulN (q := 19) dX2_lineNumber_18 rfl ?_ | refine pn_imul (q := 19) dX2_lineNumber_18 rfl ?_
  refine pn_iload_n (q := 20) dX2_lineNumber_19 rfl rfl ?_
  refine pn_iload_n (q := 21) dX2_lineNumber_20 rfl rfl ?_
  refine pn_iconst (q := 22) (v := nI 1) dX2_lineNumber_21 rfl (by decide) ?_
  first | with_reducible refine pn_iaddN (q := 23) dX2_lineNumber_22 rfl ?_ | refine pn_iadd (q := 23) dX2_lineNumber_22 rfl ?_
  first | with_reducible refine pn_imulN (q := 24) dX2_lineNumber_23 rfl ?_ | refine pn_imul (q := 24) dX2_lineNumber_23 rfl ?_
  refine pn_iconst (q := 25) (v := nI 2) dX2_lineNumber_24 rfl (by decide) ?_
  refine pn_idivN (q := 26) dX2_lineNumber_25 rfl (by omega) ?_
  first | with_reducible refine pn_isubN (q := 27) dX2_lineNumber_26 rfl (by omega) ?_ | refine pn_isub (q := 27) dX2_lineNumber_26 rfl ?_
  refine pn_iload (q := 29) dX2_lineNumber_27 rfl rfl ?_
  first | with_reducible refine pn_iaddN (q := 30) dX2_lineNumber_29 rfl ?_ | refine pn_iadd (q := 30) dX2_lineNumber_29 rfl ?_
  refine pn_iload_n (q := 31) dX2_lineNumber_30 rfl rfl ?_
  first | with_reducible refine pn_isubN (q := 32) dX2_lineNumber_31 rfl (by omega) ?_ | refine pn_isub (q := 32) dX2_lineNumber_31 rfl ?_
  refine pn_iconst (q := 33) (v := nI 1) dX2_lineNumber_32 rfl (by decide) ?_
  first | with_reducible refine pn_isubN (q := 34) dX2_lineNumber_33 rfl (by omega) ?_ | refine pn_isub (q := 34) dX2_lineNumber_33 rfl ?_
  refine pn_iret dX2_lineNumber_34 rfl ?_
  exact ⟨rfl, rfl⟩
def bL (j : Nat) : Int64 := (1 : Int64) <<< ((nI j).toInt64 &&& 63)
def allN (n : Nat) : Int64 := bL (n * (n - 1) / 2) - 1
set_option maxRecDepth 100000 in
theorem c_allLines (adK : Nat → Nat) (d : Nat) (n : Nat) (g : Int64) (sh k pc bc : Nat) (ps : Nat → Int64) (bs sf : Nat → Int32) (hn : n ≤ 11) (hn2 : 1 ≤ n) : pnCt mX2_allLines adK d 0 0 [.ref 0] (hNet n g sh k pc bc ps bs sf) (pnIs (.inl (some (.long (allN n)))) (hNet n g sh k pc bc ps bs sf)) := by
  refine pnCt_of (by decide) kX2_allLines (Nat.le_of_ble_eq_true rfl) rfl (hNet_cl _ _ _ _ _ _ _ _ _) (pnCS_b rfl) ?_
  have h2 : n * (n - 1) ≤ 11 * 10 := Nat.mul_le_mul (by omega) (by omega)
  refine pn_lconst (q := 1) (v := 1) dX2_allLines_0 rfl (by decide) ?_
  refine pn_aload_n (q := 2) dX2_allLines_1 rfl rfl rfl ?_
  refine pn_get (q := 5) fX2_9 dX2_allLines_2 rfl rfl rfl ?_
  refine pn_aload_n (q := 6) dX2_allLines_5 rfl rfl rfl ?_
  refine pn_get (q := 9) fX2_9 dX2_allLines_6 rfl rfl rfl ?_
  refine pn_iconst (q := 10) (v := nI 1) dX2_allLines_9 rfl (by decide) ?_
  first | with_reducible refine pn_isubN (q := 11) dX2_allLines_10 rfl (by omega) ?_ | refine pn_isub (q := 11) dX2_allLines_10 rfl ?_
  first | with_reducible refine pn_imulN (q := 12) dX2_allLines_11 rfl ?_ | refine pn_imul (q := 12) dX2_allLines_11 rfl ?_
  refine pn_iconst (q := 13) (v := nI 2) dX2_allLines_12 rfl (by decide) ?_
  refine pn_idivN (q := 14) dX2_allLines_13 rfl (by omega) ?_
  refine pn_lshl (q := 15) dX2_allLines_14 rfl ?_
  refine pn_lconst (q := 16) (v := 1) dX2_allLines_15 rfl (by decide) ?_
  refine pn_lsub (q := 17) dX2_allLines_16 rfl ?_
  refine pn_lret dX2_allLines_17 rfl ?_
  exact ⟨rfl, rfl⟩
def lasN (n a : Nat) : Nat → Int64
  | 0 => 0
  | b + 1 => if b = a then lasN n a b else lasN n a b ||| bL (lnN n a b)
set_option maxRecDepth 100000 in
theorem c_linesAt (adK : Nat → Nat) (d : Nat) (n : Nat) (g : Int64) (sh k pc bc : Nat) (ps : Nat → Int64) (bs sf : Nat → Int32) (a : Nat) (hn : n ≤ 11) (ha : a < n) : pnCt mX2_linesAt adK (d + 2) 0 0 [.ref 0, .int (nI a)] (hNet n g sh k pc bc ps bs sf) (pnIs (.inl (some (.long (lasN n a n)))) (hNet n g sh k pc bc ps bs sf)) := by
  refine pnCt_of (by decide) kX2_linesAt (Nat.le_of_ble_eq_true rfl) rfl (hNet_cl _ _ _ _ _ _ _ _ _) (pnCS_b rfl) ?_
  refine pn_lconst (q := 1) (v := 0) dX2_linesAt_0 rfl (by decide) ?_
  refine pn_lstore_n (q := 2) dX2_linesAt_1 rfl (by decide) ?_
  refine pn_iconst (q := 3) (v := nI 0) dX2_linesAt_2 rfl (by decide) ?_
  refine pn_istore (q := 5) dX2_linesAt_3 rfl (by decide) ?_
  have loop : ∀ (m i : Nat), i + m = n → pnWP mX2_linesAt adK (d + 2) (pnIs (.inl (some (.long (lasN n a n)))) (hNet n g sh k pc bc ps bs sf)) 0 0 (hNet n g sh k pc bc ps bs sf) [some (.ref 0), some (.int (nI a)), some (.long (lasN n a i)), none, some (.int (nI i))] [] 5 := by
    intro m
    induction m with
    | zero =>
      intro i hi
      refine pn_iload (q := 7) dX2_linesAt_5 rfl rfl ?_
      refine pn_aload_n (q := 8) dX2_linesAt_7 rfl rfl rfl ?_
      refine pn_get (q := 11) fX2_9 dX2_linesAt_8 rfl rfl rfl ?_
      first | refine pn_nge (q := 14) (tgt := 38) dX2_linesAt_11 (by decide) rfl (by omega) (by omega) (fun hc11 => ?_) (fun hc11 => ?_) | refine pn_icmp_ge (q := 14) (tgt := 38) dX2_linesAt_11 (by decide) rfl (fun hc11 => ?_) (fun hc11 => ?_)
      · refine pn_lload_n (q := 39) dX2_linesAt_38 rfl rfl ?_
        refine pn_lret dX2_linesAt_39 rfl ?_
        exact ⟨by rw [show i = n by omega], rfl⟩
      · omega
    | succ m ih =>
      intro i hi
      refine pn_iload (q := 7) dX2_linesAt_5 rfl rfl ?_
      refine pn_aload_n (q := 8) dX2_linesAt_7 rfl rfl rfl ?_
      refine pn_get (q := 11) fX2_9 dX2_linesAt_8 rfl rfl rfl ?_
      refine pn_nge (q := 14) (tgt := 38) dX2_linesAt_11 (by decide) rfl (by omega) (by omega) (fun hc => ?_) (fun hc => ?_)
      · omega
      · have e : lasN n a (i + 1) = if i = a then lasN n a i else lasN n a i ||| bL (lnN n a i) := rfl
        refine pn_iload (q := 16) dX2_linesAt_14 rfl rfl ?_
        refine pn_iload_n (q := 17) dX2_linesAt_16 rfl rfl ?_
        first | refine pn_neq (q := 20) (tgt := 32) dX2_linesAt_17 (by decide) rfl (by omega) (by omega) (fun hc17 => ?_) (fun hc17 => ?_) | refine pn_icmp_eq (q := 20) (tgt := 32) dX2_linesAt_17 (by decide) rfl (fun hc17 => ?_) (fun hc17 => ?_)
        · first | refine pn_iinc1 (q := 35) dX2_linesAt_32 rfl rfl (by decide) ?_ | refine pn_iinc (q := 35) (mm := 1) dX2_linesAt_32 rfl rfl (by decide) (by decide) ?_
          refine pn_goto (q := 5) dX2_linesAt_35 (by decide) ?_
          (first | (rw [if_pos ‹_›] at e; have k9 := ih (i + 1) (by omega); rw [e] at k9; exact k9) | (rw [if_neg ‹_›] at e; have k9 := ih (i + 1) (by omega); rw [e] at k9; exact k9))
        · refine pn_lload_n (q := 21) dX2_linesAt_20 rfl rfl ?_
          refine pn_lconst (q := 22) (v := 1) dX2_linesAt_21 rfl (by decide) ?_
          refine pn_aload_n (q := 23) dX2_linesAt_22 rfl rfl rfl ?_
          refine pn_iload_n (q := 24) dX2_linesAt_23 rfl rfl ?_
          refine pn_iload (q := 26) dX2_linesAt_24 rfl rfl ?_
          refine pn_roV1 (q := 29) (c_lineNumber adK d n g sh k pc bc ps bs sf a i hn ha (by omega) (by omega)) lkX2_61 dX2_linesAt_26 rfl rfl (pnSel_of (I := [0, 1, 2, 3]) rfl rfl) (pnFree_none rfl) rfl rfl rfl (by omega) (Nat.le_of_ble_eq_true rfl) rfl ?_
          refine pn_lshl (q := 30) dX2_linesAt_29 rfl ?_
          refine pn_lor (q := 31) dX2_linesAt_30 rfl ?_
          refine pn_lstore_n (q := 32) dX2_linesAt_31 rfl (by decide) ?_
          first | refine pn_iinc1 (q := 35) dX2_linesAt_32 rfl rfl (by decide) ?_ | refine pn_iinc (q := 35) (mm := 1) dX2_linesAt_32 rfl rfl (by decide) (by decide) ?_
          refine pn_goto (q := 5) dX2_linesAt_35 (by decide) ?_
          (first | (rw [if_pos ‹_›] at e; have k9 := ih (i + 1) (by omega); rw [e] at k9; exact k9) | (rw [if_neg ‹_›] at e; have k9 := ih (i + 1) (by omega); rw [e] at k9; exact k9))
  exact loop n 0 (by omega)
