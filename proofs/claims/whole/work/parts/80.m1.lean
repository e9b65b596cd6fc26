/-! ===== the reference: its plain functions ===== -/
def inL (v lo hi : Int64) : Bool := decide (lo ≤ v ∧ v ≤ hi)
theorem l_nle {x y : Int64} (h : x < y) : ¬ y ≤ x := by
  rw [Int64.lt_iff_toInt_lt] at h; rw [Int64.le_iff_toInt_le]; omega
theorem l_nlt {x y : Int64} (h : ¬ x < y) : y ≤ x := by
  rw [Int64.lt_iff_toInt_lt] at h; rw [Int64.le_iff_toInt_le]; omega
set_option maxRecDepth 100000 in
theorem m_in (adK : Nat → Nat) (d : Nat) (v lo hi : Int64) : pnCt mX7_in adK d 0 0 [.long v, .long lo, .long hi] [] (pnIs (.inl (some (.int (nB (inL v lo hi))))) []) := by
  refine pnCt_of (by decide) kX7_in (Nat.le_of_ble_eq_true rfl) rfl (pnCH_b rfl) (pnCS_b rfl) ?_
  refine pn_lload_n (q := 1) dX7_in_0 rfl rfl ?_
  refine pn_lload_n (q := 2) dX7_in_1 rfl rfl ?_
  refine pn_llt (q1 := 3) (q := 6) (tgt := 17) dX7_in_2 rfl dX7_in_3 (by decide) rfl (fun hc2 => ?_) (fun hc2 => ?_)
  · refine pn_iconst (q := 18) (v := nI 0) dX7_in_17 rfl (by decide) ?_
    refine pn_tret (b := inL v lo hi) _ ?_ dX7_in_18 rfl ?_
    · first | (rw [show inL v lo hi = true from decide_eq_true ⟨l_nlt hc2, l_nlt hc9⟩]; rfl) | (rw [show inL v lo hi = false from decide_eq_false (fun q => l_nle hc9 q.2)]; rfl) | (rw [show inL v lo hi = false from decide_eq_false (fun q => l_nle hc2 q.1)]; rfl)
    · exact ⟨rfl, rfl⟩
  · refine pn_lload_n (q := 7) dX7_in_6 rfl rfl ?_
    refine pn_lload (q := 9) dX7_in_7 rfl rfl ?_
    refine pn_lgt (q1 := 10) (q := 13) (tgt := 17) dX7_in_9 rfl dX7_in_10 (by decide) rfl (fun hc9 => ?_) (fun hc9 => ?_)
    · refine pn_iconst (q := 18) (v := nI 0) dX7_in_17 rfl (by decide) ?_
      refine pn_tret (b := inL v lo hi) _ ?_ dX7_in_18 rfl ?_
      · first | (rw [show inL v lo hi = true from decide_eq_true ⟨l_nlt hc2, l_nlt hc9⟩]; rfl) | (rw [show inL v lo hi = false from decide_eq_false (fun q => l_nle hc9 q.2)]; rfl) | (rw [show inL v lo hi = false from decide_eq_false (fun q => l_nle hc2 q.1)]; rfl)
      · exact ⟨rfl, rfl⟩
    · refine pn_iconst (q := 14) (v := nI 1) dX7_in_13 rfl (by decide) ?_
      refine pn_goto (q := 18) dX7_in_14 (by decide) ?_
      refine pn_tret (b := inL v lo hi) _ ?_ dX7_in_18 rfl ?_
      · first | (rw [show inL v lo hi = true from decide_eq_true ⟨l_nlt hc2, l_nlt hc9⟩]; rfl) | (rw [show inL v lo hi = false from decide_eq_false (fun q => l_nle hc9 q.2)]; rfl) | (rw [show inL v lo hi = false from decide_eq_false (fun q => l_nle hc2 q.1)]; rfl)
      · exact ⟨rfl, rfl⟩
set_option maxRecDepth 100000 in
theorem m_less (adK : Nat → Nat) (d a b : Nat) (ha : a < 2 ^ 31) (hb : b < 2 ^ 31) : pnCt mX7_less adK d 0 0 [.int (nI a), .int (nI b)] [] (pnIs (.inl (some (.int (nI (min a b))))) []) := by
  refine pnCt_of (by decide) kX7_less (Nat.le_of_ble_eq_true rfl) rfl (pnCH_b rfl) (pnCS_b rfl) ?_
  refine pn_iload_n (q := 1) dX7_less_0 rfl rfl ?_
  refine pn_iload_n (q := 2) dX7_less_1 rfl rfl ?_
  first | refine pn_nge (q := 5) (tgt := 9) dX7_less_2 (by decide) rfl (by omega) (by omega) (fun hc2 => ?_) (fun hc2 => ?_) | refine pn_icmp_ge (q := 5) (tgt := 9) dX7_less_2 (by decide) rfl (fun hc2 => ?_) (fun hc2 => ?_)
  · refine pn_iload_n (q := 10) dX7_less_9 rfl rfl ?_
    refine pn_iret dX7_less_10 rfl ?_
    exact ⟨by rw [Nat.min_def]; split <;> first | rfl | (rw [show a = b by omega]) | omega, rfl⟩
  · refine pn_iload_n (q := 6) dX7_less_5 rfl rfl ?_
    refine pn_goto (q := 10) dX7_less_6 (by decide) ?_
    refine pn_iret dX7_less_10 rfl ?_
    exact ⟨by rw [Nat.min_def]; split <;> first | rfl | (rw [show a = b by omega]) | omega, rfl⟩
set_option maxRecDepth 100000 in
theorem m_more (adK : Nat → Nat) (d a b : Nat) (ha : a < 2 ^ 31) (hb : b < 2 ^ 31) : pnCt mX7_more adK d 0 0 [.int (nI a), .int (nI b)] [] (pnIs (.inl (some (.int (nI (max a b))))) []) := by
  refine pnCt_of (by decide) kX7_more (Nat.le_of_ble_eq_true rfl) rfl (pnCH_b rfl) (pnCS_b rfl) ?_
  refine pn_iload_n (q := 1) dX7_more_0 rfl rfl ?_
  refine pn_iload_n (q := 2) dX7_more_1 rfl rfl ?_
  first | refine pn_nle (q := 5) (tgt := 9) dX7_more_2 (by decide) rfl (by omega) (by omega) (fun hc2 => ?_) (fun hc2 => ?_) | refine pn_icmp_le (q := 5) (tgt := 9) dX7_more_2 (by decide) rfl (fun hc2 => ?_) (fun hc2 => ?_)
  · refine pn_iload_n (q := 10) dX7_more_9 rfl rfl ?_
    refine pn_iret dX7_more_10 rfl ?_
    exact ⟨by rw [Nat.max_def]; split <;> first | rfl | (rw [show a = b by omega]) | omega, rfl⟩
  · refine pn_iload_n (q := 6) dX7_more_5 rfl rfl ?_
    refine pn_goto (q := 10) dX7_more_6 (by decide) ?_
    refine pn_iret dX7_more_10 rfl ?_
    exact ⟨by rw [Nat.max_def]; split <;> first | rfl | (rw [show a = b by omega]) | omega, rfl⟩
/-- the numbers of lines of the nodes below i -/
def lbS (n : Nat) : Nat → Nat
  | 0 => 0
  | i + 1 => lbS n i + (n - 1 - i)
theorem lbS_eq (n : Nat) : ∀ i, i ≤ n → 2 * lbS n i + i * (i + 1) = 2 * (i * n)
  | 0, _ => by simp [lbS]
  | i + 1, h => by
    have ih := lbS_eq n i (by omega)
    have e : lbS n (i + 1) = lbS n i + (n - 1 - i) := rfl
    rw [e]
    have e1 : (i + 1) * (i + 1 + 1) = i * (i + 1) + 2 * i + 2 := by
      rw [Nat.add_mul, Nat.mul_add, Nat.mul_add]; omega
    have e2 : (i + 1) * n = i * n + n := by rw [Nat.add_mul, Nat.one_mul]
    omega
theorem lbS_ln {n a b : Nat} (ha : a < n) (hb : b < n) : lbS n (min a b) + max a b - min a b - 1 = lnN n a b := by
  have h := lbS_eq n (min a b) (by omega)
  unfold lnN
  have : min a b * (min a b + 1) ≤ 2 * (min a b * n) := by omega
  have h2 : lbS n (min a b) = min a b * n - min a b * (min a b + 1) / 2 := by omega
  rw [h2]
theorem lbS_le {n : Nat} (hn : n ≤ 11) : ∀ i, i ≤ n → lbS n i ≤ 10 * i
  | 0, _ => Nat.le_refl _
  | i + 1, h => by
    have := lbS_le hn i (by omega)
    have e : lbS n (i + 1) = lbS n i + (n - 1 - i) := rfl
    rw [e]; omega
set_option maxRecDepth 100000 in
theorem m_lineOf (adK : Nat → Nat) (d n a b : Nat) (hn : n ≤ 11) (ha : a < n) (hb : b < n) (hab : a ≠ b) : pnCt mX7_lineOf adK (d + 1) 0 0 [.int (nI n), .int (nI a), .int (nI b)] [] (pnIs (.inl (some (.int (nI (lnN n a b))))) []) := by
  refine pnCt_of (by decide) kX7_lineOf (Nat.le_of_ble_eq_true rfl) rfl (pnCH_b rfl) (pnCS_b rfl) ?_
  have h0 : min a b < n := by omega
  have h00 : min a b < max a b ∧ max a b < n := by omega
  have loop : ∀ (z i : Nat), i + z = min a b → pnWP mX7_lineOf adK (d + 1) (pnIs (.inl (some (.int (nI (lnN n a b))))) []) 0 0 [] [some (.int (nI n)), some (.int (nI a)), some (.int (nI b)), some (.int (nI (min a b))), some (.int (nI (max a b))), some (.int (nI (lbS n i))), some (.int (nI i))] [] 19 := by
    intro z
    induction z with
    | zero =>
      intro i hz
      have h1 := lbS_le hn i (by omega)
      refine pn_iload (q := 21) dX7_lineOf_19 rfl rfl ?_
      refine pn_iload_n (q := 22) dX7_lineOf_21 rfl rfl ?_
      first | refine pn_nge (q := 25) (tgt := 42) dX7_lineOf_22 (by decide) rfl (by omega) (by omega) (fun hc22 => ?_) (fun hc22 => ?_) | refine pn_icmp_ge (q := 25) (tgt := 42) dX7_lineOf_22 (by decide) rfl (fun hc22 => ?_) (fun hc22 => ?_)
      · refine pn_iload (q := 44) dX7_lineOf_42 rfl rfl ?_
        refine pn_iload (q := 46) dX7_lineOf_44 rfl rfl ?_
        first | with_reducible refine pn_iaddN (q := 47) dX7_lineOf_46 rfl ?_ | refine pn_iadd (q := 47) dX7_lineOf_46 rfl ?_
        refine pn_iload_n (q := 48) dX7_lineOf_47 rfl rfl ?_
        first | with_reducible refine pn_isubN (q := 49) dX7_lineOf_48 rfl (by omega) ?_ | refine pn_isub (q := 49) dX7_lineOf_48 rfl ?_
        refine pn_iconst (q := 50) (v := nI 1) dX7_lineOf_49 rfl (by decide) ?_
        first | with_reducible refine pn_isubN (q := 51) dX7_lineOf_50 rfl (by omega) ?_ | refine pn_isub (q := 51) dX7_lineOf_50 rfl ?_
        refine pn_iret dX7_lineOf_51 rfl ?_
        exact ⟨by rw [← lbS_ln ha hb, show i = min a b by omega], rfl⟩
      · omega
    | succ z ih =>
      intro i hz
      have h1 := lbS_le hn i (by omega)
      refine pn_iload (q := 21) dX7_lineOf_19 rfl rfl ?_
      refine pn_iload_n (q := 22) dX7_lineOf_21 rfl rfl ?_
      first | refine pn_nge (q := 25) (tgt := 42) dX7_lineOf_22 (by decide) rfl (by omega) (by omega) (fun hc22 => ?_) (fun hc22 => ?_) | refine pn_icmp_ge (q := 25) (tgt := 42) dX7_lineOf_22 (by decide) rfl (fun hc22 => ?_) (fun hc22 => ?_)
      · omega
      · refine pn_iload (q := 27) dX7_lineOf_25 rfl rfl ?_
        refine pn_iload_n (q := 28) dX7_lineOf_27 rfl rfl ?_
        refine pn_iconst (q := 29) (v := nI 1) dX7_lineOf_28 rfl (by decide) ?_
        first | with_reducible refine pn_isubN (q := 30) dX7_lineOf_29 rfl (by omega) ?_ | refine pn_isub (q := 30) dX7_lineOf_29 rfl ?_
        refine pn_iload (q := 32) dX7_lineOf_30 rfl rfl ?_
        first | with_reducible refine pn_isubN (q := 33) dX7_lineOf_32 rfl (by omega) ?_ | refine pn_isub (q := 33) dX7_lineOf_32 rfl ?_
        first | with_reducible refine pn_iaddN (q := 34) dX7_lineOf_33 rfl ?_ | refine pn_iadd (q := 34) dX7_lineOf_33 rfl ?_
        refine pn_istore (q := 36) dX7_lineOf_34 rfl (by decide) ?_
        first | refine pn_iinc1 (q := 39) dX7_lineOf_36 rfl rfl (by decide) ?_ | refine pn_iinc (q := 39) (mm := 1) dX7_lineOf_36 rfl rfl (by decide) (by decide) ?_
        refine pn_goto (q := 19) dX7_lineOf_39 (by decide) ?_
        exact ih (i + 1) (by omega)
  refine pn_iload_n (q := 1) dX7_lineOf_0 rfl rfl ?_
  refine pn_iload_n (q := 2) dX7_lineOf_1 rfl rfl ?_
  refine pn_roS1 (q := 5) (m_less adK d a b (by omega) (by omega)) lkX7_69 dX7_lineOf_2 rfl rfl (pnSel_of (I := []) rfl rfl) (pnFree_none rfl) rfl (by omega) (Nat.le_of_ble_eq_true rfl) rfl ?_
  refine pn_istore_n (q := 6) dX7_lineOf_5 rfl (by decide) ?_
  refine pn_iload_n (q := 7) dX7_lineOf_6 rfl rfl ?_
  refine pn_iload_n (q := 8) dX7_lineOf_7 rfl rfl ?_
  refine pn_roS1 (q := 11) (m_more adK d a b (by omega) (by omega)) lkX7_73 dX7_lineOf_8 rfl rfl (pnSel_of (I := []) rfl rfl) (pnFree_none rfl) rfl (by omega) (Nat.le_of_ble_eq_true rfl) rfl ?_
  refine pn_istore (q := 13) dX7_lineOf_11 rfl (by decide) ?_
  refine pn_iconst (q := 14) (v := nI 0) dX7_lineOf_13 rfl (by decide) ?_
  refine pn_istore (q := 16) dX7_lineOf_14 rfl (by decide) ?_
  refine pn_iconst (q := 17) (v := nI 0) dX7_lineOf_16 rfl (by decide) ?_
  refine pn_istore (q := 19) dX7_lineOf_17 rfl (by decide) ?_
  exact loop (min a b) 0 (by omega)
theorem lN_div2 : ∀ n, n ≤ 110 → lN n / lN 2 = lN (n / 2) := by decide +kernel
theorem lN2_ne : ¬ lN 2 = 0 := by decide
set_option maxRecDepth 100000 in
theorem m_linesOf (adK : Nat → Nat) (d n : Nat) (hn : n ≤ 11) (hn1 : 1 ≤ n) : pnCt mX7_linesOf adK d 0 0 [.long (lN n)] [] (pnIs (.inl (some (.int (nI (n * (n - 1) / 2))))) []) := by
  refine pnCt_of (by decide) kX7_linesOf (Nat.le_of_ble_eq_true rfl) rfl (pnCH_b rfl) (pnCS_b rfl) ?_
  have h2 : n * (n - 1) ≤ 11 * 10 := Nat.mul_le_mul (by omega) (by omega)
  refine pn_lload_n (q := 1) dX7_linesOf_0 rfl rfl ?_
  refine pn_lload_n (q := 2) dX7_linesOf_1 rfl rfl ?_
  refine pn_lconst (q := 3) (v := lN 1) dX7_linesOf_2 rfl (by decide) ?_
  first | with_reducible refine pn_lsubN (q := 4) dX7_linesOf_3 rfl (by omega) ?_ | refine pn_lsub (q := 4) dX7_linesOf_3 rfl ?_
  first | with_reducible refine pn_lmulN (q := 5) dX7_linesOf_4 rfl ?_ | refine pn_lmul (q := 5) dX7_linesOf_4 rfl ?_
  refine pn_ldc2 (q := 8) pw_1258 dX7_linesOf_5 rfl ?_; refine pn_eq (h' := _) (st' := .long (lN 2) :: _) rfl rfl ?_
  refine pn_ldiv (q := 9) dX7_linesOf_8 rfl lN2_ne ?_; rw [lN_div2 _ (by omega)]
  first | with_reducible refine pn_l2iN (q := 10) dX7_linesOf_9 rfl ?_ | refine pn_l2i (q := 10) dX7_linesOf_9 rfl ?_
  refine pn_iret dX7_linesOf_10 rfl ?_
  exact ⟨rfl, rfl⟩
set_option maxRecDepth 100000 in
theorem m_allOf (adK : Nat → Nat) (d n : Nat) (hn : n ≤ 11) (hn1 : 1 ≤ n) : pnCt mX7_allOf adK (d + 1) 0 0 [.long (lN n)] [] (pnIs (.inl (some (.long (allN n)))) []) := by
  refine pnCt_of (by decide) kX7_allOf (Nat.le_of_ble_eq_true rfl) rfl (pnCH_b rfl) (pnCS_b rfl) ?_
  refine pn_lconst (q := 1) (v := lN 1) dX7_allOf_0 rfl (by decide) ?_
  refine pn_lload_n (q := 2) dX7_allOf_1 rfl rfl ?_
  refine pn_roS1 (q := 5) (m_linesOf adK d n hn hn1) lkX7_78 dX7_allOf_2 rfl rfl (pnSel_of (I := []) rfl rfl) (pnFree_none rfl) rfl (by omega) (Nat.le_of_ble_eq_true rfl) rfl ?_
  refine pn_lshl (q := 6) dX7_allOf_5 rfl ?_
  refine pn_lconst (q := 7) (v := lN 1) dX7_allOf_6 rfl (by decide) ?_
  first | with_reducible refine pn_lsubN (q := 8) dX7_allOf_7 rfl (by omega) ?_ | refine pn_lsub (q := 8) dX7_allOf_7 rfl ?_
  refine pn_lret dX7_allOf_8 rfl ?_
  exact ⟨rfl, rfl⟩
/-- bit k of a long, as the reference reads it -/
def biL (x : Int64) (k : Nat) : Int64 := (x >>> ((nI k).toInt64 &&& 63)) &&& lN 1
def onN (x : Int64) : Nat → Int32
  | 0 => nI 0
  | k + 1 => ((onN x k).toInt64 + biL x k).toInt32
set_option maxRecDepth 100000 in
theorem m_ones (adK : Nat → Nat) (d : Nat) (x : Int64) : pnCt mX7_ones adK d 0 0 [.long x] [] (pnIs (.inl (some (.int (onN x 55)))) []) := by
  refine pnCt_of (by decide) kX7_ones (Nat.le_of_ble_eq_true rfl) rfl (pnCH_b rfl) (pnCS_b rfl) ?_
  have loop : ∀ (z i : Nat), i + z = 55 → pnWP mX7_ones adK d (pnIs (.inl (some (.int (onN x 55)))) []) 0 0 [] [some (.long x), none, some (.int (onN x i)), some (.int (nI i))] [] 4 := by
    intro z
    induction z with
    | zero =>
      intro i hz
      refine pn_iload_n (q := 5) dX7_ones_4 rfl rfl ?_
      refine pn_bipush (q := 7) (v := nI 55) dX7_ones_5 rfl (by decide) ?_
      first | refine pn_nge (q := 10) (tgt := 26) dX7_ones_7 (by decide) rfl (by omega) (by omega) (fun hc7 => ?_) (fun hc7 => ?_) | refine pn_icmp_ge (q := 10) (tgt := 26) dX7_ones_7 (by decide) rfl (fun hc7 => ?_) (fun hc7 => ?_)
      · refine pn_iload_n (q := 27) dX7_ones_26 rfl rfl ?_
        refine pn_iret dX7_ones_27 rfl ?_
        exact ⟨by rw [show i = 55 by omega], rfl⟩
      · omega
    | succ z ih =>
      intro i hz
      refine pn_iload_n (q := 5) dX7_ones_4 rfl rfl ?_
      refine pn_bipush (q := 7) (v := nI 55) dX7_ones_5 rfl (by decide) ?_
      first | refine pn_nge (q := 10) (tgt := 26) dX7_ones_7 (by decide) rfl (by omega) (by omega) (fun hc7 => ?_) (fun hc7 => ?_) | refine pn_icmp_ge (q := 10) (tgt := 26) dX7_ones_7 (by decide) rfl (fun hc7 => ?_) (fun hc7 => ?_)
      · omega
      · refine pn_iload_n (q := 11) dX7_ones_10 rfl rfl ?_
        refine pn_i2l (q := 12) dX7_ones_11 rfl ?_
        refine pn_lload_n (q := 13) dX7_ones_12 rfl rfl ?_
        refine pn_iload_n (q := 14) dX7_ones_13 rfl rfl ?_
        refine pn_lshr (q := 15) dX7_ones_14 rfl ?_
        refine pn_lconst (q := 16) (v := lN 1) dX7_ones_15 rfl (by decide) ?_
        refine pn_land (q := 17) dX7_ones_16 rfl ?_
        refine pn_ladd (q := 18) dX7_ones_17 rfl ?_
        refine pn_l2i (q := 19) dX7_ones_18 rfl ?_
        refine pn_istore_n (q := 20) dX7_ones_19 rfl (by decide) ?_
        first | refine pn_iinc1 (q := 23) dX7_ones_20 rfl rfl (by decide) ?_ | refine pn_iinc (q := 23) (mm := 1) dX7_ones_20 rfl rfl (by decide) (by decide) ?_
        refine pn_goto (q := 4) dX7_ones_23 (by decide) ?_
        exact ih (i + 1) (by omega)
  refine pn_iconst (q := 1) (v := nI 0) dX7_ones_0 rfl (by decide) ?_
  refine pn_istore_n (q := 2) dX7_ones_1 rfl (by decide) ?_
  refine pn_iconst (q := 3) (v := nI 0) dX7_ones_2 rfl (by decide) ?_
  refine pn_istore_n (q := 4) dX7_ones_3 rfl (by decide) ?_
  exact loop 55 0 (by omega)
/-- k is the least bit of x -/
def isLo (x : Int64) (k : Nat) : Prop := k < 64 ∧ ¬ biL x k = lN 0 ∧ ∀ j, j < k → biL x j = lN 0
set_option maxRecDepth 100000 in
theorem m_leastOf (adK : Nat → Nat) (d : Nat) (x : Int64) (k : Nat) (hk : isLo x k) : pnCt mX7_leastOf adK d 0 0 [.long x] [] (pnIs (.inl (some (.int (nI k)))) []) := by
  refine pnCt_of (by decide) kX7_leastOf (Nat.le_of_ble_eq_true rfl) rfl (pnCH_b rfl) (pnCS_b rfl) ?_
  obtain ⟨h1, h2, h3⟩ := hk
  have loop : ∀ (z i : Nat), i + z = k → pnWP mX7_leastOf adK d (pnIs (.inl (some (.int (nI k)))) []) 0 0 [] [some (.long x), none, some (.int (nI i))] [] 2 := by
    intro z
    induction z with
    | zero =>
      intro i hz
      have e : i = k := by omega
      subst e
      refine pn_lload_n (q := 3) dX7_leastOf_2 rfl rfl ?_
      refine pn_iload_n (q := 4) dX7_leastOf_3 rfl rfl ?_
      refine pn_lshr (q := 5) dX7_leastOf_4 rfl ?_
      refine pn_lconst (q := 6) (v := lN 1) dX7_leastOf_5 rfl (by decide) ?_
      refine pn_land (q := 7) dX7_leastOf_6 rfl ?_
      refine pn_lconst (q := 8) (v := lN 0) dX7_leastOf_7 rfl (by decide) ?_
      refine pn_lne (q1 := 9) (q := 12) (tgt := 18) dX7_leastOf_8 rfl dX7_leastOf_9 (by decide) rfl (fun hc8 => ?_) (fun hc8 => ?_)
      · refine pn_iload_n (q := 19) dX7_leastOf_18 rfl rfl ?_
        refine pn_iret dX7_leastOf_19 rfl ?_
        exact ⟨rfl, rfl⟩
      · exact (h2 hc8).elim
    | succ z ih =>
      intro i hz
      refine pn_lload_n (q := 3) dX7_leastOf_2 rfl rfl ?_
      refine pn_iload_n (q := 4) dX7_leastOf_3 rfl rfl ?_
      refine pn_lshr (q := 5) dX7_leastOf_4 rfl ?_
      refine pn_lconst (q := 6) (v := lN 1) dX7_leastOf_5 rfl (by decide) ?_
      refine pn_land (q := 7) dX7_leastOf_6 rfl ?_
      refine pn_lconst (q := 8) (v := lN 0) dX7_leastOf_7 rfl (by decide) ?_
      refine pn_lne (q1 := 9) (q := 12) (tgt := 18) dX7_leastOf_8 rfl dX7_leastOf_9 (by decide) rfl (fun hc8 => ?_) (fun hc8 => ?_)
      · exact (hc8 (h3 i (by omega))).elim
      · first | refine pn_iinc1 (q := 15) dX7_leastOf_12 rfl rfl (by decide) ?_ | refine pn_iinc (q := 15) (mm := 1) dX7_leastOf_12 rfl rfl (by decide) (by decide) ?_
        refine pn_goto (q := 2) dX7_leastOf_15 (by decide) ?_
        exact ih (i + 1) (by omega)
  refine pn_iconst (q := 1) (v := nI 0) dX7_leastOf_0 rfl (by decide) ?_
  refine pn_istore_n (q := 2) dX7_leastOf_1 rfl (by decide) ?_
  exact loop k 0 (by omega)
def ahB (x y : Int64) (k : Nat) : Bool := decide (biL x k = lN 1)
set_option maxRecDepth 100000 in
theorem m_isAhead0 (adK : Nat → Nat) (d : Nat) (x : Int64) : pnCt mX7_isAhead adK (d + 1) 0 0 [.long x, .long x] [] (pnIs (.inl (some (.int (nB false)))) []) := by
  refine pnCt_of (by decide) kX7_isAhead (Nat.le_of_ble_eq_true rfl) rfl (pnCH_b rfl) (pnCS_b rfl) ?_
  have e : x ^^^ x = lN 0 := by
    have : (x ^^^ x) = (0 : Int64) := Int64.xor_self
    exact this
  refine pn_lload_n (q := 1) dX7_isAhead_0 rfl rfl ?_
  refine pn_lload_n (q := 2) dX7_isAhead_1 rfl rfl ?_
  refine pn_lxor (q := 3) dX7_isAhead_2 rfl ?_
  refine pn_lstore (q := 5) dX7_isAhead_3 rfl (by decide) ?_
  refine pn_lload (q := 7) dX7_isAhead_5 rfl rfl ?_
  refine pn_lconst (q := 8) (v := lN 0) dX7_isAhead_7 rfl (by decide) ?_
  refine pn_leq (q1 := 9) (q := 12) (tgt := 30) dX7_isAhead_8 rfl dX7_isAhead_9 (by decide) rfl (fun hc8 => ?_) (fun hc8 => ?_)
  · refine pn_iconst (q := 31) (v := nI 0) dX7_isAhead_30 rfl (by decide) ?_
    refine pn_tret (b := false) _ ?_ dX7_isAhead_31 rfl ?_
    · rfl
    · exact ⟨rfl, rfl⟩
  · exact (hc8 e).elim
set_option maxRecDepth 100000 in
theorem m_isAhead (adK : Nat → Nat) (d : Nat) (x y : Int64) (k : Nat) (hk : isLo (x ^^^ y) k) (hne : ¬ x ^^^ y = lN 0) : pnCt mX7_isAhead adK (d + 1) 0 0 [.long x, .long y] [] (pnIs (.inl (some (.int (nB (decide (biL x k = lN 1)))))) []) := by
  refine pnCt_of (by decide) kX7_isAhead (Nat.le_of_ble_eq_true rfl) rfl (pnCH_b rfl) (pnCS_b rfl) ?_
  refine pn_lload_n (q := 1) dX7_isAhead_0 rfl rfl ?_
  refine pn_lload_n (q := 2) dX7_isAhead_1 rfl rfl ?_
  refine pn_lxor (q := 3) dX7_isAhead_2 rfl ?_
  refine pn_lstore (q := 5) dX7_isAhead_3 rfl (by decide) ?_
  refine pn_lload (q := 7) dX7_isAhead_5 rfl rfl ?_
  refine pn_lconst (q := 8) (v := lN 0) dX7_isAhead_7 rfl (by decide) ?_
  refine pn_leq (q1 := 9) (q := 12) (tgt := 30) dX7_isAhead_8 rfl dX7_isAhead_9 (by decide) rfl (fun hc8 => ?_) (fun hc8 => ?_)
  · exact (hne hc8).elim
  · refine pn_lload_n (q := 13) dX7_isAhead_12 rfl rfl ?_
    refine pn_lload (q := 15) dX7_isAhead_13 rfl rfl ?_
    refine pn_roS1 (q := 18) (m_leastOf adK d (x ^^^ y) k hk) lkX7_82 dX7_isAhead_15 rfl rfl (pnSel_of (I := []) rfl rfl) (pnFree_none rfl) rfl (by omega) (Nat.le_of_ble_eq_true rfl) rfl ?_
    refine pn_lshr (q := 19) dX7_isAhead_18 rfl ?_
    refine pn_lconst (q := 20) (v := lN 1) dX7_isAhead_19 rfl (by decide) ?_
    refine pn_land (q := 21) dX7_isAhead_20 rfl ?_
    refine pn_lconst (q := 22) (v := lN 1) dX7_isAhead_21 rfl (by decide) ?_
    refine pn_lne (q1 := 23) (q := 26) (tgt := 30) dX7_isAhead_22 rfl dX7_isAhead_23 (by decide) rfl (fun hc22 => ?_) (fun hc22 => ?_)
    · refine pn_iconst (q := 31) (v := nI 0) dX7_isAhead_30 rfl (by decide) ?_
      refine pn_tret (b := decide (biL x k = lN 1)) _ ?_ dX7_isAhead_31 rfl ?_
      · first | (rw [show decide (biL x k = lN 1) = true from decide_eq_true hc22]; rfl) | (rw [show decide (biL x k = lN 1) = false from decide_eq_false hc22]; rfl) | (rw [show decide (biL x k = lN 1) = true from decide_eq_true (Decidable.not_not.mp hc22)]; rfl)
      · exact ⟨rfl, rfl⟩
    · refine pn_iconst (q := 27) (v := nI 1) dX7_isAhead_26 rfl (by decide) ?_
      refine pn_goto (q := 31) dX7_isAhead_27 (by decide) ?_
      refine pn_tret (b := decide (biL x k = lN 1)) _ ?_ dX7_isAhead_31 rfl ?_
      · first | (rw [show decide (biL x k = lN 1) = true from decide_eq_true hc22]; rfl) | (rw [show decide (biL x k = lN 1) = false from decide_eq_false hc22]; rfl) | (rw [show decide (biL x k = lN 1) = true from decide_eq_true (Decidable.not_not.mp hc22)]; rfl)
      · exact ⟨rfl, rfl⟩
theorem lN_eqI {a b : Nat} (ha : a < 1000000) (hb : b < 1000000) : lN a = lN b ↔ a = b := by
  constructor
  · intro h
    have h1 := congrArg Int64.toInt h
    have e : ∀ n, n < 1000000 → (lN n).toInt = (n : Int) := fun n hn => lg_ofNat_toInt (by omega)
    rw [e a ha, e b hb] at h1
    omega
  · intro h; rw [h]
theorem lN_ltI {a b : Nat} (ha : a < 1000000) (hb : b < 1000000) : lN a < lN b ↔ a < b := by
  rw [Int64.lt_iff_toInt_lt]
  have e : ∀ n, n < 1000000 → (lN n).toInt = (n : Int) := fun n hn => lg_ofNat_toInt (by omega)
  rw [e a ha, e b hb]
  omega
theorem lN_leI {a b : Nat} (ha : a < 1000000) (hb : b < 1000000) : lN a ≤ lN b ↔ a ≤ b := by
  rw [Int64.le_iff_toInt_le]
  have e : ∀ n, n < 1000000 → (lN n).toInt = (n : Int) := fun n hn => lg_ofNat_toInt (by omega)
  rw [e a ha, e b hb]
  omega
set_option maxRecDepth 100000 in
theorem m_endsOf (adK : Nat → Nat) (d sh k : Nat) (hsh : sh ≤ 3) (hk : k ≤ 1000) : pnCt mX7_endsOf adK d 0 0 [.long (lN sh), .long (lN k)] [] (pnIs (.inl (some (.int (nI (plN sh k))))) []) := by
  refine pnCt_of (by decide) kX7_endsOf (Nat.le_of_ble_eq_true rfl) rfl (pnCH_b rfl) (pnCS_b rfl) ?_
  refine pn_lload_n (q := 1) dX7_endsOf_0 rfl rfl ?_
  refine pn_lconst (q := 2) (v := lN 0) dX7_endsOf_1 rfl (by decide) ?_
  refine pn_leq (q1 := 3) (q := 6) (tgt := 14) dX7_endsOf_2 rfl dX7_endsOf_3 (by decide) rfl (fun hc2 => ?_) (fun hc2 => ?_)
  · refine pn_lload_n (q := 15) dX7_endsOf_14 rfl rfl ?_
    refine pn_goto (q := 21) dX7_endsOf_15 (by decide) ?_
    first | with_reducible refine pn_l2iN (q := 22) dX7_endsOf_21 rfl ?_ | refine pn_l2i (q := 22) dX7_endsOf_21 rfl ?_
    refine pn_iret dX7_endsOf_22 rfl ?_
    (first | rw [lN_eqI (by omega) (by omega)] at hc2 | skip); (first | rw [lN_eqI (by omega) (by omega)] at hc10 | skip); exact ⟨by unfold plN clN; first | (rw [if_pos (by rw [show sh = 0 by omega]; rfl)]) | (rw [if_pos (by rw [show sh = 3 by omega]; rfl)]) | (rw [if_neg (by rcases (show sh = 1 ∨ sh = 2 by omega) with e | e <;> rw [e] <;> decide)]), rfl⟩
  · refine pn_lload_n (q := 7) dX7_endsOf_6 rfl rfl ?_
    refine pn_ldc2 (q := 10) pw_1077 dX7_endsOf_7 rfl ?_; refine pn_eq (h' := _) (st' := .long (lN 3) :: _) rfl rfl ?_
    refine pn_lne (q1 := 11) (q := 14) (tgt := 18) dX7_endsOf_10 rfl dX7_endsOf_11 (by decide) rfl (fun hc10 => ?_) (fun hc10 => ?_)
    · refine pn_lload_n (q := 19) dX7_endsOf_18 rfl rfl ?_
      refine pn_lconst (q := 20) (v := lN 1) dX7_endsOf_19 rfl (by decide) ?_
      first | with_reducible refine pn_laddN (q := 21) dX7_endsOf_20 rfl ?_ | refine pn_ladd (q := 21) dX7_endsOf_20 rfl ?_
      first | with_reducible refine pn_l2iN (q := 22) dX7_endsOf_21 rfl ?_ | refine pn_l2i (q := 22) dX7_endsOf_21 rfl ?_
      refine pn_iret dX7_endsOf_22 rfl ?_
      (first | rw [lN_eqI (by omega) (by omega)] at hc2 | skip); (first | rw [lN_eqI (by omega) (by omega)] at hc10 | skip); exact ⟨by unfold plN clN; first | (rw [if_pos (by rw [show sh = 0 by omega]; rfl)]) | (rw [if_pos (by rw [show sh = 3 by omega]; rfl)]) | (rw [if_neg (by rcases (show sh = 1 ∨ sh = 2 by omega) with e | e <;> rw [e] <;> decide)]), rfl⟩
    · refine pn_lload_n (q := 15) dX7_endsOf_14 rfl rfl ?_
      refine pn_goto (q := 21) dX7_endsOf_15 (by decide) ?_
      first | with_reducible refine pn_l2iN (q := 22) dX7_endsOf_21 rfl ?_ | refine pn_l2i (q := 22) dX7_endsOf_21 rfl ?_
      refine pn_iret dX7_endsOf_22 rfl ?_
      (first | rw [lN_eqI (by omega) (by omega)] at hc2 | skip); (first | rw [lN_eqI (by omega) (by omega)] at hc10 | skip); exact ⟨by unfold plN clN; first | (rw [if_pos (by rw [show sh = 0 by omega]; rfl)]) | (rw [if_pos (by rw [show sh = 3 by omega]; rfl)]) | (rw [if_neg (by rcases (show sh = 1 ∨ sh = 2 by omega) with e | e <;> rw [e] <;> decide)]), rfl⟩
set_option maxRecDepth 100000 in
theorem m_isDigit (adK : Nat → Nat) (d : Nat) (x : Int32) : pnCt mX7_isDigit adK d 0 0 [.int x] [] (pnIs (.inl (some (.int (nB (dgB x))))) []) := by
  refine pnCt_of (by decide) kX7_isDigit (Nat.le_of_ble_eq_true rfl) rfl (pnCH_b rfl) (pnCS_b rfl) ?_
  refine pn_iload_n (q := 1) dX7_isDigit_0 rfl rfl ?_
  refine pn_bipush (q := 3) (v := nI 48) dX7_isDigit_1 rfl (by decide) ?_
  first | refine pn_nlt (q := 6) (tgt := 16) dX7_isDigit_3 (by decide) rfl (by omega) (by omega) (fun hc3 => ?_) (fun hc3 => ?_) | refine pn_icmp_lt (q := 6) (tgt := 16) dX7_isDigit_3 (by decide) rfl (fun hc3 => ?_) (fun hc3 => ?_)
  · refine pn_iconst (q := 17) (v := nI 0) dX7_isDigit_16 rfl (by decide) ?_
    refine pn_tret (b := dgB x) _ ?_ dX7_isDigit_17 rfl ?_
    · first | (rw [show dgB x = true from decide_eq_true ⟨hc3, hc9⟩]; rfl) | (rw [show dgB x = false from decide_eq_false (fun q => q.2 hc9)]; rfl) | (rw [show dgB x = false from decide_eq_false (fun q => q.1 hc3)]; rfl)
    · exact ⟨rfl, rfl⟩
  · refine pn_iload_n (q := 7) dX7_isDigit_6 rfl rfl ?_
    refine pn_bipush (q := 9) (v := nI 57) dX7_isDigit_7 rfl (by decide) ?_
    first | refine pn_ngt (q := 12) (tgt := 16) dX7_isDigit_9 (by decide) rfl (by omega) (by omega) (fun hc9 => ?_) (fun hc9 => ?_) | refine pn_icmp_gt (q := 12) (tgt := 16) dX7_isDigit_9 (by decide) rfl (fun hc9 => ?_) (fun hc9 => ?_)
    · refine pn_iconst (q := 17) (v := nI 0) dX7_isDigit_16 rfl (by decide) ?_
      refine pn_tret (b := dgB x) _ ?_ dX7_isDigit_17 rfl ?_
      · first | (rw [show dgB x = true from decide_eq_true ⟨hc3, hc9⟩]; rfl) | (rw [show dgB x = false from decide_eq_false (fun q => q.2 hc9)]; rfl) | (rw [show dgB x = false from decide_eq_false (fun q => q.1 hc3)]; rfl)
      · exact ⟨rfl, rfl⟩
    · refine pn_iconst (q := 13) (v := nI 1) dX7_isDigit_12 rfl (by decide) ?_
      refine pn_goto (q := 17) dX7_isDigit_13 (by decide) ?_
      refine pn_tret (b := dgB x) _ ?_ dX7_isDigit_17 rfl ?_
      · first | (rw [show dgB x = true from decide_eq_true ⟨hc3, hc9⟩]; rfl) | (rw [show dgB x = false from decide_eq_false (fun q => q.2 hc9)]; rfl) | (rw [show dgB x = false from decide_eq_false (fun q => q.1 hc3)]; rfl)
      · exact ⟨rfl, rfl⟩
def cpyF (f g : Nat → Int64) (i : Nat) : Nat → Int64 := fun j => if j < i then f j else g j
theorem cpyF_up (f g : Nat → Int64) (i : Nat) : vp_updL (cpyF f g i) i (f i) = cpyF f g (i + 1) := by
  funext j
  unfold vp_updL cpyF
  by_cases e : j = i
  · subst e; simp
  · have : (j < i + 1) = (j < i) := by simp; omega
    simp [e, this]
set_option maxRecDepth 100000 in
theorem m_copies (adK : Nat → Nat) (d : Nat) (f g : Nat → Int64) : pnCt mX7_copies adK d 0 0 [.ref 0, .ref 1] [.inl (1, 90, .inr (.inl f)), .inl (1, 90, .inr (.inl g))] (pnIs (.inl none) [.inl (1, 90, .inr (.inl f)), .inl (1, 90, .inr (.inl (cpyF f g 90)))]) := by
  refine pnCt_of (by decide) kX7_copies (Nat.le_of_ble_eq_true rfl) rfl (pnCH_b rfl) (pnCS_b rfl) ?_
  have loop : ∀ (z i : Nat), i + z = 90 → pnWP mX7_copies adK d (pnIs (.inl none) [.inl (1, 90, .inr (.inl f)), .inl (1, 90, .inr (.inl (cpyF f g 90)))]) 0 0 [.inl (1, 90, .inr (.inl f)), .inl (1, 90, .inr (.inl (cpyF f g i)))] [some (.ref 0), some (.ref 1), some (.int (nI i))] [] 2 := by
    intro z
    induction z with
    | zero =>
      intro i hz
      refine pn_iload_n (q := 3) dX7_copies_2 rfl rfl ?_
      refine pn_bipush (q := 5) (v := nI 90) dX7_copies_3 rfl (by decide) ?_
      first | refine pn_nge (q := 8) (tgt := 20) dX7_copies_5 (by decide) rfl (by omega) (by omega) (fun hc5 => ?_) (fun hc5 => ?_) | refine pn_icmp_ge (q := 8) (tgt := 20) dX7_copies_5 (by decide) rfl (fun hc5 => ?_) (fun hc5 => ?_)
      · refine pn_vret dX7_copies_20 rfl ?_
        exact ⟨rfl, by rw [show i = 90 by omega]⟩
      · omega
    | succ z ih =>
      intro i hz
      have k9 := ih (i + 1) (by omega)
      rw [← cpyF_up f g i] at k9
      refine pn_iload_n (q := 3) dX7_copies_2 rfl rfl ?_
      refine pn_bipush (q := 5) (v := nI 90) dX7_copies_3 rfl (by decide) ?_
      first | refine pn_nge (q := 8) (tgt := 20) dX7_copies_5 (by decide) rfl (by omega) (by omega) (fun hc5 => ?_) (fun hc5 => ?_) | refine pn_icmp_ge (q := 8) (tgt := 20) dX7_copies_5 (by decide) rfl (fun hc5 => ?_) (fun hc5 => ?_)
      · omega
      · refine pn_aload_n (q := 9) dX7_copies_8 rfl rfl rfl ?_
        refine pn_iload_n (q := 10) dX7_copies_9 rfl rfl ?_
        refine pn_aload_n (q := 11) dX7_copies_10 rfl rfl rfl ?_
        refine pn_iload_n (q := 12) dX7_copies_11 rfl rfl ?_
        refine pn_lald1 (q := 13) dX7_copies_12 rfl rfl rfl (by omega) (by decide) ?_
        refine pn_last1 (q := 14) dX7_copies_13 rfl rfl rfl (by omega) (by decide) ?_
        first | refine pn_iinc1 (q := 17) dX7_copies_14 rfl rfl (by decide) ?_ | refine pn_iinc (q := 17) (mm := 1) dX7_copies_14 rfl rfl (by decide) (by decide) ?_
        refine pn_goto (q := 2) dX7_copies_17 (by decide) ?_
        exact k9
  have e0 : cpyF f g 0 = g := by funext j; unfold cpyF; simp
  have k0 := loop 90 0 (by omega)
  rw [e0] at k0
  refine pn_iconst (q := 1) (v := nI 0) dX7_copies_0 rfl (by decide) ?_
  refine pn_istore_n (q := 2) dX7_copies_1 rfl (by decide) ?_
  exact k0
