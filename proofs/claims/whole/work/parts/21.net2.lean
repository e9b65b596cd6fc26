def clN (sh : Nat) : Bool := sh == 0 || sh == 3
def plN (sh k : Nat) : Nat := if clN sh = true then k else k + 1
def lsN (sh i : Nat) : Nat := if sh = 2 then 0 else i
def leN (sh k i : Nat) : Nat := if clN sh = true ∧ i + 1 = k then 0 else i + 1
set_option maxRecDepth 100000 in
theorem c_isClosed (adK : Nat → Nat) (d n : Nat) (g : Int64) (sh k pc bc : Nat) (ps : Nat → Int64) (bs sf : Nat → Int32) (hsh : sh ≤ 3) : pnCt mX2_isClosed adK d 0 0 [.ref 0] (hNet n g sh k pc bc ps bs sf) (pnIs (.inl (some (.int (nB (clN sh))))) (hNet n g sh k pc bc ps bs sf)) := by
  refine pnCt_of (by decide) kX2_isClosed (Nat.le_of_ble_eq_true rfl) rfl (hNet_cl _ _ _ _ _ _ _ _ _) (pnCS_b rfl) ?_
  refine pn_aload_n (q := 1) dX2_isClosed_0 rfl rfl rfl ?_
  refine pn_get (q := 4) fX2_19 dX2_isClosed_1 rfl rfl rfl ?_
  first | refine pn_zeq (q := 7) (tgt := 15) dX2_isClosed_4 (by decide) rfl (by omega) (fun hc4 => ?_) (fun hc4 => ?_) | refine pn_if_eq (q := 7) (tgt := 15) dX2_isClosed_4 (by decide) rfl (fun hc4 => ?_) (fun hc4 => ?_)
  · refine pn_iconst (q := 16) (v := nI 1) dX2_isClosed_15 rfl (by decide) ?_
    refine pn_goto (q := 20) dX2_isClosed_16 (by decide) ?_
    refine pn_tret (b := clN sh) _ ?_ dX2_isClosed_20 rfl ?_
    · first | (simp [nB, clN, *]; done) | (have : (sh == 0 || sh == 3) = false := by simp [*]) <;> simp [nB, clN, this]
    · exact ⟨rfl, rfl⟩
  · refine pn_aload_n (q := 8) dX2_isClosed_7 rfl rfl rfl ?_
    refine pn_get (q := 11) fX2_19 dX2_isClosed_8 rfl rfl rfl ?_
    refine pn_iconst (q := 12) (v := nI 3) dX2_isClosed_11 rfl (by decide) ?_
    first | refine pn_nne (q := 15) (tgt := 19) dX2_isClosed_12 (by decide) rfl (by omega) (by omega) (fun hc12 => ?_) (fun hc12 => ?_) | refine pn_icmp_ne (q := 15) (tgt := 19) dX2_isClosed_12 (by decide) rfl (fun hc12 => ?_) (fun hc12 => ?_)
    · refine pn_iconst (q := 20) (v := nI 0) dX2_isClosed_19 rfl (by decide) ?_
      refine pn_tret (b := clN sh) _ ?_ dX2_isClosed_20 rfl ?_
      · first | (simp [nB, clN, *]; done) | (have : (sh == 0 || sh == 3) = false := by simp [*]) <;> simp [nB, clN, this]
      · exact ⟨rfl, rfl⟩
    · refine pn_iconst (q := 16) (v := nI 1) dX2_isClosed_15 rfl (by decide) ?_
      refine pn_goto (q := 20) dX2_isClosed_16 (by decide) ?_
      refine pn_tret (b := clN sh) _ ?_ dX2_isClosed_20 rfl ?_
      · first | (simp [nB, clN, *]; done) | (have : (sh == 0 || sh == 3) = false := by simp [*]) <;> simp [nB, clN, this]
      · exact ⟨rfl, rfl⟩
set_option maxRecDepth 100000 in
theorem c_places (adK : Nat → Nat) (d n : Nat) (g : Int64) (sh k pc bc : Nat) (ps : Nat → Int64) (bs sf : Nat → Int32) (hsh : sh ≤ 3) : pnCt mX2_places adK (d + 1) 0 0 [.ref 0] (hNet n g sh k pc bc ps bs sf) (pnIs (.inl (some (.int (nI (plN sh k))))) (hNet n g sh k pc bc ps bs sf)) := by
  refine pnCt_of (by decide) kX2_places (Nat.le_of_ble_eq_true rfl) rfl (hNet_cl _ _ _ _ _ _ _ _ _) (pnCS_b rfl) ?_
  refine pn_aload_n (q := 1) dX2_places_0 rfl rfl rfl ?_
  refine pn_roV1 (q := 4) (c_isClosed adK d n g sh k pc bc ps bs sf hsh) lkX2_48 dX2_places_1 rfl rfl (pnSel_of (I := [0, 1, 2, 3]) rfl rfl) (pnFree_none rfl) rfl rfl rfl (by omega) (Nat.le_of_ble_eq_true rfl) rfl ?_
  refine pn_beq (q := 7) (tgt := 14) dX2_places_4 (by decide) rfl (fun hc4 => ?_) (fun hc4 => ?_)
  · refine pn_aload_n (q := 15) dX2_places_14 rfl rfl rfl ?_
    refine pn_get (q := 18) fX2_22 dX2_places_15 rfl rfl rfl ?_
    refine pn_iconst (q := 19) (v := nI 1) dX2_places_18 rfl (by decide) ?_
    first | with_reducible refine pn_iaddN (q := 20) dX2_places_19 rfl ?_ | refine pn_iadd (q := 20) dX2_places_19 rfl ?_
    refine pn_iret dX2_places_20 rfl ?_
    exact ⟨by simp [plN, *], rfl⟩
  · refine pn_aload_n (q := 8) dX2_places_7 rfl rfl rfl ?_
    refine pn_get (q := 11) fX2_22 dX2_places_8 rfl rfl rfl ?_
    refine pn_goto (q := 20) dX2_places_11 (by decide) ?_
    refine pn_iret dX2_places_20 rfl ?_
    exact ⟨by simp [plN, *], rfl⟩
set_option maxRecDepth 100000 in
theorem c_lineStart (adK : Nat → Nat) (d n : Nat) (g : Int64) (sh k pc bc : Nat) (ps : Nat → Int64) (bs sf : Nat → Int32) (i : Nat) (hsh : sh ≤ 3) : pnCt mX2_lineStart adK d 0 0 [.ref 0, .int (nI i)] (hNet n g sh k pc bc ps bs sf) (pnIs (.inl (some (.int (nI (lsN sh i))))) (hNet n g sh k pc bc ps bs sf)) := by
  refine pnCt_of (by decide) kX2_lineStart (Nat.le_of_ble_eq_true rfl) rfl (hNet_cl _ _ _ _ _ _ _ _ _) (pnCS_b rfl) ?_
  refine pn_aload_n (q := 1) dX2_lineStart_0 rfl rfl rfl ?_
  refine pn_get (q := 4) fX2_19 dX2_lineStart_1 rfl rfl rfl ?_
  refine pn_iconst (q := 5) (v := nI 2) dX2_lineStart_4 rfl (by decide) ?_
  first | refine pn_nne (q := 8) (tgt := 12) dX2_lineStart_5 (by decide) rfl (by omega) (by omega) (fun hc5 => ?_) (fun hc5 => ?_) | refine pn_icmp_ne (q := 8) (tgt := 12) dX2_lineStart_5 (by decide) rfl (fun hc5 => ?_) (fun hc5 => ?_)
  · refine pn_iload_n (q := 13) dX2_lineStart_12 rfl rfl ?_
    refine pn_iret dX2_lineStart_13 rfl ?_
    exact ⟨by simp [lsN, *], rfl⟩
  · refine pn_iconst (q := 9) (v := nI 0) dX2_lineStart_8 rfl (by decide) ?_
    refine pn_goto (q := 13) dX2_lineStart_9 (by decide) ?_
    refine pn_iret dX2_lineStart_13 rfl ?_
    exact ⟨by simp [lsN, *], rfl⟩
set_option maxRecDepth 100000 in
theorem c_lineEnd (adK : Nat → Nat) (d n : Nat) (g : Int64) (sh k pc bc : Nat) (ps : Nat → Int64) (bs sf : Nat → Int32) (i : Nat) (hsh : sh ≤ 3) (hk : k < 2 ^ 30) (hi : i < 2 ^ 30) : pnCt mX2_lineEnd adK (d + 1) 0 0 [.ref 0, .int (nI i)] (hNet n g sh k pc bc ps bs sf) (pnIs (.inl (some (.int (nI (leN sh k i))))) (hNet n g sh k pc bc ps bs sf)) := by
  refine pnCt_of (by decide) kX2_lineEnd (Nat.le_of_ble_eq_true rfl) rfl (hNet_cl _ _ _ _ _ _ _ _ _) (pnCS_b rfl) ?_
  refine pn_aload_n (q := 1) dX2_lineEnd_0 rfl rfl rfl ?_
  refine pn_roV1 (q := 4) (c_isClosed adK d n g sh k pc bc ps bs sf hsh) lkX2_48 dX2_lineEnd_1 rfl rfl (pnSel_of (I := [0, 1, 2, 3]) rfl rfl) (pnFree_none rfl) rfl rfl rfl (by omega) (Nat.le_of_ble_eq_true rfl) rfl ?_
  refine pn_beq (q := 7) (tgt := 21) dX2_lineEnd_4 (by decide) rfl (fun hc4 => ?_) (fun hc4 => ?_)
  · refine pn_iload_n (q := 22) dX2_lineEnd_21 rfl rfl ?_
    refine pn_iconst (q := 23) (v := nI 1) dX2_lineEnd_22 rfl (by decide) ?_
    first | with_reducible refine pn_iaddN (q := 24) dX2_lineEnd_23 rfl ?_ | refine pn_iadd (q := 24) dX2_lineEnd_23 rfl ?_
    refine pn_iret dX2_lineEnd_24 rfl ?_
    exact ⟨by simp [leN, *], rfl⟩
  · refine pn_iload_n (q := 8) dX2_lineEnd_7 rfl rfl ?_
    refine pn_iconst (q := 9) (v := nI 1) dX2_lineEnd_8 rfl (by decide) ?_
    first | with_reducible refine pn_iaddN (q := 10) dX2_lineEnd_9 rfl ?_ | refine pn_iadd (q := 10) dX2_lineEnd_9 rfl ?_
    refine pn_aload_n (q := 11) dX2_lineEnd_10 rfl rfl rfl ?_
    refine pn_get (q := 14) fX2_22 dX2_lineEnd_11 rfl rfl rfl ?_
    first | refine pn_nne (q := 17) (tgt := 21) dX2_lineEnd_14 (by decide) rfl (by omega) (by omega) (fun hc14 => ?_) (fun hc14 => ?_) | refine pn_icmp_ne (q := 17) (tgt := 21) dX2_lineEnd_14 (by decide) rfl (fun hc14 => ?_) (fun hc14 => ?_)
    · refine pn_iload_n (q := 22) dX2_lineEnd_21 rfl rfl ?_
      refine pn_iconst (q := 23) (v := nI 1) dX2_lineEnd_22 rfl (by decide) ?_
      first | with_reducible refine pn_iaddN (q := 24) dX2_lineEnd_23 rfl ?_ | refine pn_iadd (q := 24) dX2_lineEnd_23 rfl ?_
      refine pn_iret dX2_lineEnd_24 rfl ?_
      exact ⟨by simp [leN, *], rfl⟩
    · refine pn_iconst (q := 18) (v := nI 0) dX2_lineEnd_17 rfl (by decide) ?_
      refine pn_goto (q := 24) dX2_lineEnd_18 (by decide) ?_
      refine pn_iret dX2_lineEnd_24 rfl ?_
      exact ⟨by simp [leN, *], rfl⟩
/-- the number of a line -/
def lnN (n a b : Nat) : Nat := (min a b) * n - (min a b) * (min a b + 1) / 2 + max a b - min a b - 1
def hasN (n : Nat) (x : Int32) : Bool := decide (0 ≤ x.toInt ∧ x.toInt < n)
theorem hasN_cases (x : Int32) (n : Nat) (hn : n < 2 ^ 31) : (x < 0 ∧ hasN n x = false) ∨ (nI n ≤ x ∧ ¬ x < 0 ∧ hasN n x = false) ∨ ∃ j : Nat, j < n ∧ x = nI j ∧ hasN n x = true := by
  rcases pk_ix x hn with h | h | ⟨j, hj, h⟩
  · left; refine ⟨h, ?_⟩
    rw [Int32.lt_iff_toInt_lt] at h
    unfold hasN
    rw [decide_eq_false_iff_not]
    have : (0 : Int32).toInt = 0 := rfl
    omega
  · right; left
    have h2 := Int32.le_iff_toInt_le.mp h
    rw [nI_toInt hn] at h2
    refine ⟨h, ?_, ?_⟩
    · rw [Int32.lt_iff_toInt_lt]
      have : (0 : Int32).toInt = 0 := rfl
      omega
    · unfold hasN
      rw [decide_eq_false_iff_not]
      omega
  · right; right
    refine ⟨j, hj, h, ?_⟩
    subst h
    unfold hasN
    rw [nI_toInt (by omega), decide_eq_true_eq]
    omega
set_option maxRecDepth 100000 in
theorem c_hasNode (adK : Nat → Nat) (d n : Nat) (g : Int64) (sh k pc bc : Nat) (ps : Nat → Int64) (bs sf : Nat → Int32) (x : Int32) (hn : n < 2 ^ 31) : pnCt mX2_hasNode adK d 0 0 [.ref 0, .int x] (hNet n g sh k pc bc ps bs sf) (pnIs (.inl (some (.int (nB (hasN n x))))) (hNet n g sh k pc bc ps bs sf)) := by
  refine pnCt_of (by decide) kX2_hasNode (Nat.le_of_ble_eq_true rfl) rfl (hNet_cl _ _ _ _ _ _ _ _ _) (pnCS_b rfl) ?_
  rcases hasN_cases x n hn with ⟨h1, h2⟩ | ⟨h1, h3, h2⟩ | ⟨j, hj, h1, h2⟩
  · refine pn_iload_n (q := 1) dX2_hasNode_0 rfl rfl ?_
    refine pn_if_lt (q := 4) (tgt := 16) dX2_hasNode_1 (by decide) rfl (fun hc1 => ?_) (fun hc1 => ?_)
    · refine pn_iconst (q := 17) (v := nI 0) dX2_hasNode_16 rfl (by decide) ?_
      refine pn_tret (b := hasN n x) _ ?_ dX2_hasNode_17 rfl ?_
      · first | exact absurd h1 ‹_› | (rw [h2]; rfl)
      · exact ⟨rfl, rfl⟩
    · refine pn_iload_n (q := 5) dX2_hasNode_4 rfl rfl ?_
      refine pn_aload_n (q := 6) dX2_hasNode_5 rfl rfl rfl ?_
      refine pn_get (q := 9) fX2_9 dX2_hasNode_6 rfl rfl rfl ?_
      refine pn_icmp_ge (q := 12) (tgt := 16) dX2_hasNode_9 (by decide) rfl (fun hc9 => ?_) (fun hc9 => ?_)
      · refine pn_iconst (q := 17) (v := nI 0) dX2_hasNode_16 rfl (by decide) ?_
        refine pn_tret (b := hasN n x) _ ?_ dX2_hasNode_17 rfl ?_
        · first | exact absurd h1 ‹_› | (rw [h2]; rfl)
        · exact ⟨rfl, rfl⟩
      · refine pn_iconst (q := 13) (v := nI 1) dX2_hasNode_12 rfl (by decide) ?_
        refine pn_goto (q := 17) dX2_hasNode_13 (by decide) ?_
        refine pn_tret (b := hasN n x) _ ?_ dX2_hasNode_17 rfl ?_
        · first | exact absurd h1 ‹_› | (rw [h2]; rfl)
        · exact ⟨rfl, rfl⟩
  · refine pn_iload_n (q := 1) dX2_hasNode_0 rfl rfl ?_
    refine pn_if_lt (q := 4) (tgt := 16) dX2_hasNode_1 (by decide) rfl (fun hc1 => ?_) (fun hc1 => ?_)
    · refine pn_iconst (q := 17) (v := nI 0) dX2_hasNode_16 rfl (by decide) ?_
      refine pn_tret (b := hasN n x) _ ?_ dX2_hasNode_17 rfl ?_
      · first | exact absurd h1 ‹_› | (rw [h2]; rfl)
      · exact ⟨rfl, rfl⟩
    · refine pn_iload_n (q := 5) dX2_hasNode_4 rfl rfl ?_
      refine pn_aload_n (q := 6) dX2_hasNode_5 rfl rfl rfl ?_
      refine pn_get (q := 9) fX2_9 dX2_hasNode_6 rfl rfl rfl ?_
      refine pn_icmp_ge (q := 12) (tgt := 16) dX2_hasNode_9 (by decide) rfl (fun hc9 => ?_) (fun hc9 => ?_)
      · refine pn_iconst (q := 17) (v := nI 0) dX2_hasNode_16 rfl (by decide) ?_
        refine pn_tret (b := hasN n x) _ ?_ dX2_hasNode_17 rfl ?_
        · first | exact absurd h1 ‹_› | (rw [h2]; rfl)
        · exact ⟨rfl, rfl⟩
      · refine pn_iconst (q := 13) (v := nI 1) dX2_hasNode_12 rfl (by decide) ?_
        refine pn_goto (q := 17) dX2_hasNode_13 (by decide) ?_
        refine pn_tret (b := hasN n x) _ ?_ dX2_hasNode_17 rfl ?_
        · first | exact absurd h1 ‹_› | (rw [h2]; rfl)
        · exact ⟨rfl, rfl⟩
  · rw [h2]
    subst h1
    refine pn_iload_n (q := 1) dX2_hasNode_0 rfl rfl ?_
    first | refine pn_zlt (q := 4) (tgt := 16) dX2_hasNode_1 (by decide) rfl (by omega) (fun hc1 => ?_) (fun hc1 => ?_) | refine pn_if_lt (q := 4) (tgt := 16) dX2_hasNode_1 (by decide) rfl (fun hc1 => ?_) (fun hc1 => ?_)
    · exact absurd hc1 (by simp)
    · refine pn_iload_n (q := 5) dX2_hasNode_4 rfl rfl ?_
      refine pn_aload_n (q := 6) dX2_hasNode_5 rfl rfl rfl ?_
      refine pn_get (q := 9) fX2_9 dX2_hasNode_6 rfl rfl rfl ?_
      first | refine pn_nge (q := 12) (tgt := 16) dX2_hasNode_9 (by decide) rfl (by omega) (by omega) (fun hc9 => ?_) (fun hc9 => ?_) | refine pn_icmp_ge (q := 12) (tgt := 16) dX2_hasNode_9 (by decide) rfl (fun hc9 => ?_) (fun hc9 => ?_)
      · omega
      · refine pn_iconst (q := 13) (v := nI 1) dX2_hasNode_12 rfl (by decide) ?_
        refine pn_goto (q := 17) dX2_hasNode_13 (by decide) ?_
        refine pn_tret (b := true) _ ?_ dX2_hasNode_17 rfl ?_
        · rfl
        · exact ⟨rfl, rfl⟩
